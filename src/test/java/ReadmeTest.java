/** The example of README.md: its calls, in their order, answer what stands beside them. */
public final class ReadmeTest {
    public static void main(String[] args) {
        Checks c = new Checks("ReadmeTest");
        PurrProbates cat = new PurrProbates();
        c.due("set(PURR, 80)", cat.set(PurrProbates.PURR, 80), 70);
        c.due("add(5, 80)", cat.add(5, 80), 0);
        c.due("the number that README.md gives", 0x3366302C39663530L, numberOf("3f0,9f50"));
        c.due("put(3f0,9f50)", cat.put(0x3366302C39663530L), 8);
        c.due("fault()", cat.fault(), PurrProbates.NONE);
        c.due("read()", cat.read(), 3);
        c.due("next(0)", cat.next(0), 2);
        c.due("next(1)", cat.next(1), 3);
        c.due("pass(28)", cat.pass(28), 1);
        c.due("count(9)", cat.count(9), 2);
        c.due("person(2, 3)", cat.person(2, 3), 15);
        c.due("save(0)", cat.save(0), 28);
        c.due("stepDown()", cat.stepDown(), 2);
        c.due("count(9)", cat.count(9), PurrProbates.NONE);
        c.due("undo()", cat.undo(), 4);
        c.due("restore(0)", cat.restore(0), 28);
        c.finish();
    }

    private static long numberOf(String text) {
        long number = 0;
        for (int i = 0; i < text.length(); i++) {
            number = number << 8 | text.charAt(i);
        }
        return number;
    }
}
