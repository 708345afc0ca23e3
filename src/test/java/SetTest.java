/** Promise 2. */
public final class SetTest {
    private static final int[] FIRST = {70, 30, 10, 28, 3, 20};
    private static final int[] LOWEST = {1, 0, 0, 5, 1, 0};
    private static final int[] HIGHEST = {200, 200, 99, 40, 9, 60};

    public static void main(String[] args) {
        Checks c = new Checks("SetTest");
        for (int setting = 0; setting < 6; setting++) {
            range(c, setting);
        }
        noSuchSetting(c);
        c.finish();
    }

    private static void range(Checks c, int setting) {
        PurrProbates x = new PurrProbates();
        String set = "set(" + setting + ", ";
        c.due(set + "lowest)", x.set(setting, LOWEST[setting]), FIRST[setting]);
        c.due("count", x.count(setting), LOWEST[setting]);
        c.due(set + "highest)", x.set(setting, HIGHEST[setting]), LOWEST[setting]);
        c.due("count", x.count(setting), HIGHEST[setting]);
        c.due(set + "highest) again", x.set(setting, HIGHEST[setting]), HIGHEST[setting]);
        c.due("changes", x.count(20), 3);
        for (int other = 0; other < 6; other++) {
            if (other != setting) {
                c.due("count of another", x.count(other), FIRST[other]);
            }
        }
        String before = Checks.answers(x);
        c.refused(x, before, set + "too low)", x.set(setting, LOWEST[setting] - 1), -2);
        c.refused(x, before, set + "too high)", x.set(setting, HIGHEST[setting] + 1), -2);
        c.refused(x, before, set + "least int)", x.set(setting, Integer.MIN_VALUE), -2);
        c.refused(x, before, set + "greatest int)", x.set(setting, Integer.MAX_VALUE), -2);
    }

    private static void noSuchSetting(Checks c) {
        PurrProbates x = new PurrProbates();
        String before = Checks.answers(x);
        int[] none = {-1, 6, 7, 20, Integer.MIN_VALUE, Integer.MAX_VALUE};
        for (int setting : none) {
            c.refused(x, before, "set(" + setting + ", 9)", x.set(setting, 9), -2);
        }
    }
}
