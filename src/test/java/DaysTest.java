/** Promises 8 and 9, give and pass, and the rules of a day. */
public final class DaysTest {
    private static final int PURR = PurrProbates.PURR, ALLOW = PurrProbates.ALLOW, MONTH = PurrProbates.MONTH,
            BARS = PurrProbates.BARS, SOUR = PurrProbates.SOUR;

    public static void main(String[] args) {
        Checks c = new Checks("DaysTest");
        give(c);
        passRange(c);
        passMostDays(c);
        purrFromTheScore(c);
        scratches(c);
        barredArePassedOver(c);
        aroundTheEnd(c);
        allBarred(c);
        moodFallsToNothing(c);
        moodRisesAndFalls(c);
        shareIsRoundedDown(c);
        emptyEstateWithGuardian(c);
        emptyEstateOfTheCourt(c);
        deposedAsTheCatIsSour(c);
        purrAtTheEndOfAMonth(c);
        monthOfTheSetting(c);
        c.finish();
    }

    private static void give(Checks c) {
        PurrProbates x = new PurrProbates();
        c.due("give(1)", x.give(1), 1001);
        c.due("give(9999)", x.give(9999), 11000);
        c.due("count(18)", x.count(18), 10000);
        c.due("count(20)", x.count(20), 2);
        String before = Checks.answers(x);
        c.refused(x, before, "give(0)", x.give(0), -2);
        c.refused(x, before, "give(-1)", x.give(-1), -2);
        c.refused(x, before, "give(10000)", x.give(10000), -2);
        c.refused(x, before, "give(greatest)", x.give(Integer.MAX_VALUE), -2);
        for (int i = 1; i <= 8; i++) {
            c.due("give(9999)", x.give(9999), 11000 + 9999 * i);
        }
        before = Checks.answers(x);
        c.refused(x, before, "give(9008) to 90992", x.give(9008), -4);
        c.due("give(9007)", x.give(9007), 99999);
        before = Checks.answers(x);
        c.refused(x, before, "give(1) to 99999", x.give(1), -4);
        c.refused(x, before, "give(10000) to 99999", x.give(10000), -2);
        c.due("count(18)", x.count(18), 98999);
    }

    private static void passRange(Checks c) {
        PurrProbates x = Checks.withPeople("1f1,2f2");
        String before = Checks.answers(x);
        c.refused(x, before, "pass(0)", x.pass(0), -2);
        c.refused(x, before, "pass(-1)", x.pass(-1), -2);
        c.refused(x, before, "pass(100)", x.pass(100), -2);
        c.refused(x, before, "pass(greatest)", x.pass(Integer.MAX_VALUE), -2);
        c.due("pass(99)", x.pass(99), 0);
        c.due("count(6)", x.count(6), 99);
        c.due("count(20)", x.count(20), 2);
    }

    private static void passMostDays(Checks c) {
        PurrProbates x = new PurrProbates();
        for (int i = 0; i < 100; i++) {
            c.due("pass(99)", x.pass(99), 0);
        }
        c.due("pass(98)", x.pass(98), 0);
        String before = Checks.answers(x);
        c.refused(x, before, "pass(2) on 9998", x.pass(2), -4);
        c.refused(x, before, "pass(100) on 9998", x.pass(100), -2);
        c.due("pass(1)", x.pass(1), 0);
        c.due("count(6)", x.count(6), 9999);
        before = Checks.answers(x);
        c.refused(x, before, "pass(1) on 9999", x.pass(1), -4);
        c.due("ifPassed goes beyond", x.ifPassed(28, 3), 50);
        x.give(9);
        c.due("untilEmpty goes beyond, to the day 10024", x.untilEmpty(), 25);
    }

    private static void purrFromTheScore(Checks c) {
        PurrProbates x = Checks.withPeople("4f0");
        c.due("score", x.person(0, 5), 1070);
        c.due("pass(1) at a score of PURR", x.pass(1), 1);
        c.due("guardian", x.count(9), 0);
        c.due("turn", x.count(10), -6);
        c.due("purrs", x.count(14), 1);
        c.due("purrs of the person", x.person(0, 6), 1);
        c.due("mood", x.count(8), 50);
        c.due("scratches", x.count(13), 0);
        c.due("days as guardian", x.person(0, 7), 1);
        c.due("pass(9), no more hands", x.pass(9), 0);
        c.due("days as guardian", x.person(0, 7), 10);

        PurrProbates y = Checks.withPeople("4f0");
        y.set(PURR, 71);
        c.due("pass(1) one below PURR", y.pass(1), 0);
        c.due("guardian", y.count(9), -6);
        c.due("turn", y.count(10), 0);
        c.due("scratches", y.person(0, 2), 1);
        c.due("score, a mood of 48", y.person(0, 5), 1058);
    }

    private static void scratches(Checks c) {
        PurrProbates x = Checks.withPeople("1f1,1f2,1f3");
        x.pass(1);
        c.due("one hand a day", x.count(13), 1);
        c.due("turn", x.count(10), 1);
        c.due("mood", x.count(8), 48);
        x.pass(1);
        c.due("turn", x.count(10), 2);
        c.due("mood", x.count(8), 46);
        x.pass(1);
        c.due("turn behind the last one", x.count(10), 0);
        c.due("scratches of each", x.person(0, 2) * 100 + x.person(1, 2) * 10 + x.person(2, 2), 111);
        c.due("score", x.person(0, 5), 1000 + 44 + 5 - 10);
    }

    private static void barredArePassedOver(Checks c) {
        PurrProbates x = Checks.withPeople("1f1,1f2");
        x.set(BARS, 1);
        x.pass(2);
        c.due("barred", x.count(12), 2);
        x.add(1, 3);
        c.due("turn", x.count(10), 0);
        c.due("mood", x.count(8), 46);
        x.pass(1);
        c.due("scratches of the barred", x.person(0, 2) * 10 + x.person(1, 2), 11);
        c.due("scratches of the third", x.person(2, 2), 1);
        c.due("mood", x.count(8), 44);
        c.due("turn", x.count(10), 0);
    }

    private static void aroundTheEnd(Checks c) {
        PurrProbates x = Checks.withPeople("1f1,2f2,3f3");
        x.set(PURR, 200);
        x.pass(3);
        x.move(0, 2);
        x.add(9, 9);
        x.move(3, 0);
        x.set(BARS, 1);
        c.due("turn, at one who is barred", x.count(10), 3);
        c.due("barred", x.count(12), 3);
        x.pass(1);
        c.due("scratches of the first in the list", x.person(0, 2), 1);
        c.due("turn", x.count(10), 1);
    }

    private static void allBarred(Checks c) {
        PurrProbates x = Checks.withPeople("1f1,2f2");
        x.set(PURR, 200);
        x.pass(6);
        c.due("barred", x.count(12), 2);
        c.due("mood", x.count(8), 38);
        x.pass(1);
        c.due("nobody holds out a hand", x.count(13), 6);
        c.due("mood", x.count(8), 39);
        x.pass(20);
        c.due("mood", x.count(8), 50);
        c.due("turn", x.count(10), 0);
        x.set(BARS, 4);
        c.due("barred", x.count(12), 0);
        x.set(PURR, 25);
        c.due("score", x.person(0, 5), 1025);
        c.due("pass(1)", x.pass(1), 1);
        x.set(BARS, 1);
        c.due("the guardian is barred, too", x.person(0, 4), 1);
        x.pass(9);
        c.due("and stays guardian", x.count(9), 0);
    }

    private static void moodFallsToNothing(Checks c) {
        PurrProbates x = Checks.withPeople("1f1,1f1,1f1,1f1,1f1,1f1,1f1,1f1");
        x.set(PURR, 200);
        x.set(BARS, 9);
        x.pass(24);
        c.due("mood", x.count(8), 2);
        x.pass(1);
        c.due("mood, 0 and then 1 nearer to 50", x.count(8), 1);
        x.pass(1);
        c.due("mood", x.count(8), 1);
        c.due("score below 0", x.person(0, 5), 1000 + 1 + 5 - 40);
        x.pass(46);
        c.due("scratches", x.count(13), 72);
        c.due("barred", x.count(12), 8);
        c.due("score", x.person(7, 5), 1000 + 1 + 5 - 90);
        x.pass(1);
        c.due("mood", x.count(8), 2);
    }

    private static void moodRisesAndFalls(Checks c) {
        PurrProbates x = Checks.withPeople("4f100");
        x.set(MONTH, 5);
        x.pass(4);
        c.due("mood", x.count(8), 50);
        x.pass(1);
        c.due("mood, half of 30 more, and 1 nearer", x.count(8), 64);
        c.due("purse", x.person(0, 3), 0);
        c.due("fed", x.count(16), 30);
        c.due("estate", x.count(11), 970);
        x.pass(4);
        c.due("mood", x.count(8), 60);
        x.set(ALLOW, 200);
        x.pass(1);
        c.due("mood, 99 at most", x.count(8), 98);
        c.due("fed", x.count(16), 230);
        x.set(ALLOW, 0);
        x.pass(48);
        c.due("mood", x.count(8), 50);
        x.pass(1);
        c.due("mood, 50 and no less", x.count(8), 50);
    }

    private static void shareIsRoundedDown(Checks c) {
        PurrProbates x = Checks.withPeople("4f50,1f7");
        x.set(MONTH, 5);
        x.set(ALLOW, 31);
        x.pass(5);
        c.due("fed, 31 / 2", x.count(16), 15);
        c.due("purse", x.person(0, 3), 16);
        c.due("mood, 7 more", x.count(8), 56);
        c.due("all purses", x.count(17), 16);
        x.stepDown();
        x.set(PURR, 200);
        x.pass(5);
        c.due("fed by the court, half of 31", x.count(16), 30);
        c.due("purse", x.person(0, 3), 16);
        c.due("estate", x.count(11), 1000 - 31 - 15);
        // 56, 52, 50, 48, 46, 44: a scratch a day, and 1 nearer to 50
        c.due("mood, not changed by the court", x.count(8), 44);
    }

    private static void emptyEstateWithGuardian(Checks c) {
        PurrProbates x = Checks.withPeople("4f33");
        x.set(MONTH, 5);
        x.set(ALLOW, 150);
        x.pass(30);
        c.due("estate", x.count(11), 100);
        c.due("purse", x.person(0, 3), 6 * 101);
        c.due("fed", x.count(16), 6 * 49);
        x.pass(5);
        c.due("estate", x.count(11), 0);
        c.due("purse", x.person(0, 3), 6 * 101 + 67);
        c.due("fed", x.count(16), 6 * 49 + 33);
        x.pass(5);
        c.due("purse", x.person(0, 3), 6 * 101 + 67);
        c.due("fed", x.count(16), 6 * 49 + 33);
        c.due("guardian", x.count(9), 0);
    }

    private static void emptyEstateOfTheCourt(Checks c) {
        PurrProbates x = new PurrProbates();
        x.set(MONTH, 5);
        x.set(ALLOW, 161);
        x.pass(60);
        c.due("estate", x.count(11), 40);
        c.due("fed", x.count(16), 960);
        x.pass(5);
        c.due("estate", x.count(11), 0);
        c.due("fed", x.count(16), 1000);
        x.pass(5);
        c.due("fed", x.count(16), 1000);
        c.due("mood", x.count(8), 50);
    }

    private static void deposedAsTheCatIsSour(Checks c) {
        // a purr on the second day, a mood of 50 from the third; 20 fed let it become 60, 19 only 59
        PurrProbates x = Checks.withPeople("1f0,4f100,9f0");
        x.set(MONTH, 5);
        x.set(ALLOW, 20);
        x.set(SOUR, 60);
        x.set(PURR, 60);
        c.due("pass(5)", x.pass(5), 1);
        c.due("guardian, a mood of 60", x.count(9), 1);
        c.due("mood", x.count(8), 59);
        c.due("deposed", x.count(15), 0);
        c.due("days as guardian", x.person(1, 7), 4);

        PurrProbates y = Checks.withPeople("1f0,4f99,9f0");
        y.set(MONTH, 5);
        y.set(ALLOW, 20);
        y.set(SOUR, 60);
        y.set(PURR, 60);
        c.due("pass(5)", y.pass(5), 1);
        c.due("guardian, a mood of 59", y.count(9), -6);
        c.due("turn", y.count(10), 0);
        c.due("deposed", y.count(15), 1);
        c.due("mood", y.count(8), 58);
        c.due("purse", y.person(1, 3), 1);
        c.due("days as guardian, not the last day", y.person(1, 7), 3);
        y.pass(1);
        c.due("scratches of the first", y.person(0, 2), 2);
    }

    private static void purrAtTheEndOfAMonth(Checks c) {
        PurrProbates x = new PurrProbates();
        x.pass(27);
        x.add(9, 10);
        c.due("pass(1)", x.pass(1), 1);
        c.due("guardian", x.count(9), 0);
        c.due("is paid at once", x.person(0, 3), 27);
        c.due("fed", x.count(16), 3);
        c.due("mood", x.count(8), 50);

        PurrProbates y = new PurrProbates();
        y.pass(27);
        y.set(SOUR, 60);
        y.add(9, 10);
        y.add(9, 10);
        c.due("pass(1), a purr and the end of it", y.pass(1), 1);
        c.due("guardian", y.count(9), -6);
        c.due("turn", y.count(10), 0);
        c.due("deposed", y.count(15), 1);
        c.due("days as guardian", y.person(0, 7), 0);
        c.due("purse", y.person(0, 3), 27);
    }

    private static void monthOfTheSetting(Checks c) {
        PurrProbates x = new PurrProbates();
        x.pass(6);
        x.set(MONTH, 7);
        x.pass(1);
        c.due("the day 7 is a multiple of 7", x.count(16), 15);
        x.set(MONTH, 5);
        x.pass(1);
        x.set(MONTH, 9);
        x.pass(1);
        c.due("the day 9 is a multiple of 9", x.count(16), 30);
        x.set(MONTH, 40);
        x.pass(30);
        c.due("the day 39 is none of 40", x.count(16), 30);
        x.pass(1);
        c.due("the day 40 is one", x.count(16), 45);
    }
}
