/** Promise 1, and the constants. */
public final class NewObjectTest {
    public static void main(String[] args) {
        Checks c = new Checks("NewObjectTest");
        constants(c);
        firstAnswers(c);
        objectsAreApart(c);
        c.finish();
    }

    private static void constants(Checks c) {
        c.due("NO_SUCH", PurrProbates.NO_SUCH, -1);
        c.due("BAD_VALUE", PurrProbates.BAD_VALUE, -2);
        c.due("BAD_TEXT", PurrProbates.BAD_TEXT, -3);
        c.due("TOO_MANY", PurrProbates.TOO_MANY, -4);
        c.due("NOT_POSSIBLE", PurrProbates.NOT_POSSIBLE, -5);
        c.due("NONE", PurrProbates.NONE, -6);
        c.due("PURR", PurrProbates.PURR, 0);
        c.due("ALLOW", PurrProbates.ALLOW, 1);
        c.due("COST", PurrProbates.COST, 2);
        c.due("MONTH", PurrProbates.MONTH, 3);
        c.due("BARS", PurrProbates.BARS, 4);
        c.due("SOUR", PurrProbates.SOUR, 5);
    }

    private static void firstAnswers(Checks c) {
        PurrProbates x = new PurrProbates();
        c.due("all answers", Checks.answers(x),
                "70 30 10 28 3 20 0 0 50 -6 0 1000 0 0 0 0 0 0 0 0 0 | fault 0");
        c.due("person(0, 0)", x.person(0, 0), -1);
        c.due("undo()", x.undo(), -5);
        c.due("restore(0)", x.restore(0), -5);
        c.due("restore(1)", x.restore(1), -5);
    }

    private static void objectsAreApart(Checks c) {
        PurrProbates x = new PurrProbates();
        PurrProbates y = new PurrProbates();
        x.set(PurrProbates.PURR, 1);
        x.add(5, 5);
        x.put(48);
        x.save(0);
        x.pass(40);
        c.due("all answers of another object", Checks.answers(y),
                "70 30 10 28 3 20 0 0 50 -6 0 1000 0 0 0 0 0 0 0 0 0 | fault 0");
        c.due("restore(0) of another object", y.restore(0), -5);
        c.due("set(0, 2) of another object", y.set(0, 2), 70);
    }
}
