/** Promises 10 and 11: person and count. */
public final class AnswersTest {
    public static void main(String[] args) {
        Checks c = new Checks("AnswersTest");
        everyAnswer(c);
        wrongArguments(c);
        c.finish();
    }

    private static void everyAnswer(Checks c) {
        PurrProbates x = Checks.withPeople("4f50,1f7,9f0");
        x.set(PurrProbates.MONTH, 5);
        x.set(PurrProbates.ALLOW, 31);
        x.set(PurrProbates.COST, 3);
        // the first is guardian from the day 1 to 5, and is paid 31: 15 are fed, the mood is 57, then 56
        x.pass(5);
        x.stepDown();
        // day 6: the second has 61, a scratch, 53, then 52; day 7: the third has 97; day 10: 31, none fed
        x.pass(5);
        // 70 against 95
        c.due("appeal(0)", x.appeal(0), 0);
        x.give(1000);
        x.put(53);
        c.due("all answers", Checks.answers(x),
                "70 31 3 5 3 20 10 3 50 2 -6 1941 0 2 2 0 15 44 1000 1 6 |"
                        + " 4 50 1 13 0 1060 1 5 1 | 1 7 1 0 0 1045 0 0 0 | 9 0 0 31 0 1095 1 4 0 | fault 1");
        x.set(PurrProbates.BARS, 1);
        x.stepDown();
        c.due("all answers", Checks.answers(x),
                "70 31 3 5 1 20 10 3 50 -6 0 1941 2 2 2 0 15 44 1000 1 6 |"
                        + " 4 50 1 13 1 1060 1 5 0 | 1 7 1 0 1 1045 0 0 0 | 9 0 0 31 0 1095 1 4 0 | fault 1");
    }

    private static void wrongArguments(Checks c) {
        PurrProbates x = new PurrProbates();
        String before = Checks.answers(x);
        c.refused(x, before, "person(0, 0)", x.person(0, 0), -1);
        c.refused(x, before, "person(0, 9)", x.person(0, 9), -1);
        c.refused(x, before, "count(-1)", x.count(-1), -2);
        c.refused(x, before, "count(21)", x.count(21), -2);
        c.refused(x, before, "count(least)", x.count(Integer.MIN_VALUE), -2);
        c.refused(x, before, "count(greatest)", x.count(Integer.MAX_VALUE), -2);
        x = Checks.withPeople("4f50,1f7");
        before = Checks.answers(x);
        c.refused(x, before, "person(2, 0)", x.person(2, 0), -1);
        c.refused(x, before, "person(2, 9)", x.person(2, 9), -1);
        c.refused(x, before, "person(-1, 0)", x.person(-1, 0), -1);
        c.refused(x, before, "person(-6, -1)", x.person(-6, -1), -1);
        c.refused(x, before, "person(8, 0)", x.person(8, 0), -1);
        c.refused(x, before, "person(greatest, 0)", x.person(Integer.MAX_VALUE, 0), -1);
        c.refused(x, before, "person(1, 9)", x.person(1, 9), -2);
        c.refused(x, before, "person(1, -1)", x.person(1, -1), -2);
        c.refused(x, before, "person(1, least)", x.person(1, Integer.MIN_VALUE), -2);
    }
}
