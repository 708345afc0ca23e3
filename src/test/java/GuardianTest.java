/** Promises 6 and 7: stepDown and appeal. */
public final class GuardianTest {
    private static final int PURR = PurrProbates.PURR, COST = PurrProbates.COST, MONTH = PurrProbates.MONTH,
            BARS = PurrProbates.BARS;

    public static void main(String[] args) {
        Checks c = new Checks("GuardianTest");
        stepDown(c);
        stepDownOfTheLast(c);
        appealWins(c);
        appealOfTheSameScore(c);
        appealOfALowerScore(c);
        appealCosts(c);
        appealCountsScratches(c);
        appealWrong(c);
        c.finish();
    }

    private static void stepDown(Checks c) {
        PurrProbates x = Checks.withPeople("4f0,9f0,1f0");
        c.refused(x, Checks.answers(x), "stepDown() of nobody", x.stepDown(), -5);
        c.due("pass(1)", x.pass(1), 1);
        c.due("stepDown()", x.stepDown(), 0);
        c.due("guardian", x.count(9), -6);
        c.due("turn", x.count(10), 1);
        c.due("stepping down is no deposing", x.count(15), 0);
        c.due("changes", x.count(20), 3);
        c.refused(x, Checks.answers(x), "stepDown() again", x.stepDown(), -5);
        c.due("pass(1)", x.pass(1), 1);
        c.due("guardian", x.count(9), 1);
        c.due("stepDown()", x.stepDown(), 1);
        c.due("turn", x.count(10), 2);
    }

    private static void stepDownOfTheLast(Checks c) {
        PurrProbates x = Checks.withPeople("1f0,9f0");
        x.pass(2);
        c.due("stepDown()", x.stepDown(), 1);
        c.due("turn behind the last one", x.count(10), 0);
        PurrProbates y = Checks.withPeople("9f0");
        y.pass(1);
        c.due("stepDown() of the only one", y.stepDown(), 0);
        c.due("turn", y.count(10), 0);
        c.due("pass(1)", y.pass(1), 1);
        c.due("purrs", y.person(0, 6), 2);
    }

    private static PurrProbates withGuardian(String people) {
        PurrProbates x = Checks.withPeople(people);
        x.set(PURR, 50);
        x.set(COST, 0);
        x.pass(1);
        return x;
    }

    private static void appealWins(Checks c) {
        PurrProbates x = withGuardian("1f0,1f1,2f2,1f3");
        c.due("guardian", x.count(9), 0);
        c.due("could appeal", x.person(2, 8), 1);
        c.due("appeal(2)", x.appeal(2), 1);
        c.due("guardian", x.count(9), -6);
        c.due("turn", x.count(10), 2);
        c.due("deposed", x.count(15), 1);
        c.due("scratches", x.count(13), 0);
        c.due("mood", x.count(8), 50);
        c.due("changes", x.count(20), 5);
        c.due("pass(1)", x.pass(1), 1);
        c.due("guardian", x.count(9), 2);
    }

    private static void appealOfTheSameScore(Checks c) {
        PurrProbates x = withGuardian("3f0,3f1");
        c.due("appeal(1)", x.appeal(1), 0);
        c.due("guardian", x.count(9), 0);
        c.due("turn", x.count(10), -6);
        c.due("scratches of the person", x.person(1, 2), 1);
        c.due("scratches", x.count(13), 1);
        c.due("deposed", x.count(15), 0);
        c.due("mood, not changed by an appeal", x.count(8), 50);
    }

    private static void appealOfALowerScore(Checks c) {
        PurrProbates x = withGuardian("3f0,2f1");
        c.due("appeal(1)", x.appeal(1), 0);
        c.due("appeal(1)", x.appeal(1), 0);
        c.due("appeal(1)", x.appeal(1), 0);
        c.due("barred", x.person(1, 4), 1);
        c.due("could appeal", x.person(1, 8), 0);
        c.refused(x, Checks.answers(x), "appeal(1) of one who is barred", x.appeal(1), -5);
    }

    private static void appealCosts(Checks c) {
        PurrProbates x = Checks.withPeople("4f0,9f0");
        x.set(MONTH, 5);
        x.pass(5);
        c.due("purse", x.person(0, 3), 30);
        x.stepDown();
        x.pass(1);
        c.due("guardian", x.count(9), 1);
        x.set(COST, 31);
        c.due("could appeal", x.person(0, 8), 0);
        c.refused(x, Checks.answers(x), "appeal(0) with 1 too little", x.appeal(0), -5);
        x.set(COST, 30);
        c.due("could appeal", x.person(0, 8), 1);
        c.due("estate", x.count(11), 970);
        c.due("appeal(0)", x.appeal(0), 0);
        c.due("purse", x.person(0, 3), 0);
        c.due("estate", x.count(11), 1000);
        c.due("given coins are others", x.count(18), 0);

        PurrProbates y = Checks.withPeople("5f0,4f0");
        y.set(MONTH, 5);
        y.pass(5);
        y.stepDown();
        y.pass(1);
        c.due("guardian", y.count(9), 1);
        c.due("appeal(0) that is won", y.appeal(0), 1);
        c.due("purse", y.person(0, 3), 20);
        c.due("estate", y.count(11), 980);
        c.due("turn", y.count(10), 0);
    }

    private static void appealCountsScratches(Checks c) {
        // 3 * 5 less 10 is no more than 1 * 5: only the first appeal would have won
        PurrProbates x = withGuardian("1f0,3f0,4f0");
        x.set(PURR, 200);
        x.stepDown();
        x.pass(2);
        c.due("scratches", x.person(1, 2), 1);
        x.set(PURR, 1);
        x.move(0, 2);
        c.due("turn", x.count(10), 2);
        x.pass(1);
        c.due("guardian", x.count(9), 2);
        c.due("appeal(0), 5 and 5", x.appeal(0), 0);
        c.due("appeal(1), 10 and 5", x.appeal(1), 1);
    }

    private static void appealWrong(Checks c) {
        PurrProbates x = Checks.withPeople("1f0,9f0");
        x.set(COST, 0);
        String before = Checks.answers(x);
        c.refused(x, before, "appeal(0) without a guardian", x.appeal(0), -5);
        c.refused(x, before, "appeal(2) without a guardian", x.appeal(2), -1);
        c.refused(x, before, "appeal(-1)", x.appeal(-1), -1);
        c.refused(x, before, "appeal(-6)", x.appeal(-6), -1);
        c.refused(x, before, "appeal(greatest)", x.appeal(Integer.MAX_VALUE), -1);
        x.pass(2);
        before = Checks.answers(x);
        c.due("could the guardian appeal", x.person(1, 8), 0);
        c.refused(x, before, "appeal(1) of the guardian", x.appeal(1), -5);
        c.refused(x, before, "appeal(2)", x.appeal(2), -1);
        x.set(BARS, 1);
        before = Checks.answers(x);
        c.due("could one appeal who is barred", x.person(0, 8), 0);
        c.refused(x, before, "appeal(0) of one who is barred", x.appeal(0), -5);
    }
}
