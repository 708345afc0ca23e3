/** Promises 12 to 15: next, untilEmpty, ifPassed and bestPlace. */
public final class WhatIfTest {
    private static final int PURR = PurrProbates.PURR, ALLOW = PurrProbates.ALLOW, MONTH = PurrProbates.MONTH,
            SOUR = PurrProbates.SOUR;

    public static void main(String[] args) {
        Checks c = new Checks("WhatIfTest");
        next(c);
        nextOnTheLastOfADaysMonth(c);
        nextWithinDays(c);
        untilEmpty(c);
        untilEmptyWithinDays(c);
        ifPassed(c);
        ifPassedAsPass(c);
        bestPlace(c);
        bestPlaceWithGuardian(c);
        wrongArguments(c);
        c.finish();
    }

    private static void next(Checks c) {
        PurrProbates x = Checks.withPeople("1f0,1f0,9f0");
        String before = Checks.answers(x);
        c.due("next(0)", x.next(0), 2);
        c.due("next(1)", x.next(1), 3);
        c.due("all answers behind next", Checks.answers(x), before);
        x.pass(1);
        c.due("next(1)", x.next(1), 2);
        x.pass(2);
        c.due("guardian", x.count(9), 2);
        c.due("next(0) with a guardian who stays", x.next(0), -6);
        c.due("next(1) with a guardian who stays", x.next(1), -6);
        // with SOUR 60 the guardian is deposed on the day 28; a day each: 0, 1, and again the third
        x.set(SOUR, 60);
        c.due("next(0) with a guardian who is deposed", x.next(0), 2);
        c.due("next(1) with a guardian who is deposed", x.next(1), 28);
        c.due("next(0) of nobody", new PurrProbates().next(0), -6);
        c.due("next(1) of nobody", new PurrProbates().next(1), -6);
    }

    private static void nextOnTheLastOfADaysMonth(Checks c) {
        PurrProbates x = new PurrProbates();
        x.pass(27);
        x.set(SOUR, 60);
        x.add(9, 0);
        c.due("next(0), one who is deposed on the same day", x.next(0), 0);
        c.due("next(1)", x.next(1), 1);
        c.due("ifPassed(1, 0)", x.ifPassed(1, 0), 1);
        c.due("ifPassed(1, 4)", x.ifPassed(1, 4), -6);
    }

    /** 20 fed let the mood become 60 at each month's end; the estate is empty behind 50 months. */
    private static PurrProbates deposedOnTheDay2040() {
        PurrProbates x = Checks.withPeople("9f100");
        x.set(MONTH, 40);
        x.set(ALLOW, 20);
        x.set(SOUR, 60);
        return x;
    }

    private static void nextWithinDays(Checks c) {
        PurrProbates x = deposedOnTheDay2040();
        for (int i = 0; i < 15; i++) {
            x.pass(99);
        }
        x.pass(55);
        c.due("days", x.count(6), 1540);
        c.due("next(0), behind 501 days", x.next(0), -6);
        c.due("next(1), behind 501 days", x.next(1), -6);
        x.pass(1);
        c.due("next(0), behind 500 days", x.next(0), 0);
        c.due("next(1), behind 500 days", x.next(1), 500);
        x.pass(99);
        c.due("next(1)", x.next(1), 401);
    }

    private static void untilEmpty(Checks c) {
        PurrProbates x = Checks.withPeople("4f33");
        x.set(MONTH, 5);
        x.set(ALLOW, 150);
        String before = Checks.answers(x);
        c.due("untilEmpty()", x.untilEmpty(), 35);
        c.due("all answers behind untilEmpty", Checks.answers(x), before);
        x.pass(34);
        c.due("untilEmpty()", x.untilEmpty(), 1);
        x.pass(1);
        c.due("untilEmpty() of nothing", x.untilEmpty(), 0);
        x.give(1);
        c.due("untilEmpty() of 1", x.untilEmpty(), 5);
        x.set(ALLOW, 0);
        c.due("untilEmpty() without an allowance", x.untilEmpty(), -6);
        x.stepDown();
        x.set(PURR, 200);
        x.set(ALLOW, 1);
        c.due("untilEmpty(), half of 1 is 0", x.untilEmpty(), -6);
        x.set(ALLOW, 2);
        c.due("untilEmpty(), half of 2 is 1", x.untilEmpty(), 5);
    }

    private static void untilEmptyWithinDays(Checks c) {
        PurrProbates x = new PurrProbates();
        x.set(ALLOW, 40);
        x.set(MONTH, 40);
        c.due("untilEmpty(), behind 2000 days", x.untilEmpty(), 2000);
        x.give(20);
        c.due("untilEmpty(), behind 2040 days", x.untilEmpty(), -6);
        x.pass(39);
        c.due("untilEmpty(), behind 2001 days", x.untilEmpty(), -6);
        x.pass(1);
        c.due("untilEmpty(), behind 2000 days", x.untilEmpty(), 2000);
    }

    private static void ifPassed(Checks c) {
        PurrProbates x = Checks.withPeople("1f0,4f99,9f0");
        x.set(MONTH, 5);
        x.set(ALLOW, 20);
        x.set(SOUR, 60);
        x.set(PURR, 60);
        String before = Checks.answers(x);
        // as in DaysTest: a scratch, a purr on the second day, deposed on the fifth, a scratch on the sixth
        due(c, x, 1, "0 1 0 48 -6");
        due(c, x, 2, "1 1 0 49 1");
        due(c, x, 4, "1 1 0 50 1");
        due(c, x, 5, "1 1 19 58 -6");
        due(c, x, 6, "1 2 19 54 -6");
        due(c, x, 7, "2 2 19 53 1");
        c.due("all answers behind ifPassed", Checks.answers(x), before);
        x.pass(5);
        due(c, x, 1, "0 1 0 54 -6");
        due(c, x, 2, "1 1 0 53 1");
        PurrProbates court = new PurrProbates();
        due(c, court, 27, "0 0 0 50 -6");
        due(c, court, 28, "0 0 15 50 -6");
        due(c, court, 500, "0 0 255 50 -6");
    }

    private static void due(Checks c, PurrProbates x, int days, String want) {
        StringBuilder got = new StringBuilder();
        for (int what = 0; what <= 4; what++) {
            got.append(what == 0 ? "" : " ").append(x.ifPassed(days, what));
        }
        c.due("ifPassed(" + days + ", 0 to 4)", got.toString(), want);
    }

    private static void ifPassedAsPass(Checks c) {
        PurrProbates x = Checks.withPeople("1f90,3f40,7f0,2f100,8f10");
        x.set(MONTH, 7);
        x.set(SOUR, 48);
        for (int i = 1; i <= 30; i++) {
            int purrs = x.ifPassed(i, 0);
            int scratches = x.count(13) + x.ifPassed(i, 1);
            int fed = x.count(16) + x.ifPassed(i, 2);
            int mood = x.ifPassed(i, 3);
            int guardian = x.ifPassed(i, 4);
            c.due("pass(" + i + ")", x.pass(i), purrs);
            c.due("scratches", x.count(13), scratches);
            c.due("fed", x.count(16), fed);
            c.due("mood", x.count(8), mood);
            c.due("guardian", x.count(9), guardian);
        }
    }

    private static void bestPlace(Checks c) {
        // the first has a scratch whatever is moved, since the turn stays theirs; who is behind them wins
        PurrProbates x = Checks.withPeople("1f0,9f0,9f0,9f0");
        String before = Checks.answers(x);
        c.due("bestPlace(0, 0)", x.bestPlace(0, 0), 0);
        c.due("bestPlace(0, 1)", x.bestPlace(0, 1), 0);
        c.due("bestPlace(1, 0)", x.bestPlace(1, 0), 1);
        c.due("bestPlace(1, 1)", x.bestPlace(1, 1), 99);
        c.due("bestPlace(3, 0)", x.bestPlace(3, 0), 1);
        c.due("bestPlace(3, 1)", x.bestPlace(3, 1), 99);
        c.due("all answers behind bestPlace", Checks.answers(x), before);
        x.move(3, 1);
        x.pass(50);
        c.due("days as guardian", x.person(1, 7), 49);

        PurrProbates y = Checks.withPeople("1f0,9f0");
        c.due("bestPlace(1, 0), the lowest of two", y.bestPlace(1, 0), 0);
        c.due("bestPlace(1, 1)", y.bestPlace(1, 1), 99);
        PurrProbates z = Checks.withPeople("9f0");
        c.due("bestPlace(0, 0)", z.bestPlace(0, 0), 0);
        c.due("bestPlace(0, 1)", z.bestPlace(0, 1), 100);
    }

    private static void bestPlaceWithGuardian(Checks c) {
        PurrProbates x = Checks.withPeople("1f0,1f0,9f0,9f0");
        x.pass(3);
        c.due("guardian", x.count(9), 2);
        c.due("bestPlace(2, 0), the guardian stays", x.bestPlace(2, 0), 0);
        c.due("bestPlace(2, 1), only days from now on", x.bestPlace(2, 1), 100);
        // deposed on the day 28, then the list is asked from its beginning: whoever of the warm ones is first
        x.set(SOUR, 49);
        c.due("bestPlace(3, 1), not yet sour", x.bestPlace(3, 1), 0);
        x.set(SOUR, 60);
        c.due("bestPlace(3, 0)", x.bestPlace(3, 0), 0);
        c.due("bestPlace(3, 1), days 29 to 55 and so on", x.bestPlace(3, 1), 27 + 27 + 19);
        c.due("bestPlace(0, 1)", x.bestPlace(0, 1), 0);
    }

    private static void wrongArguments(Checks c) {
        PurrProbates x = Checks.withPeople("4f50,1f7");
        String before = Checks.answers(x);
        c.refused(x, before, "next(2)", x.next(2), -2);
        c.refused(x, before, "next(-1)", x.next(-1), -2);
        c.refused(x, before, "ifPassed(0, 0)", x.ifPassed(0, 0), -2);
        c.refused(x, before, "ifPassed(-1, 0)", x.ifPassed(-1, 0), -2);
        c.refused(x, before, "ifPassed(501, 0)", x.ifPassed(501, 0), -2);
        c.refused(x, before, "ifPassed(greatest, 0)", x.ifPassed(Integer.MAX_VALUE, 0), -2);
        c.refused(x, before, "ifPassed(1, -1)", x.ifPassed(1, -1), -2);
        c.refused(x, before, "ifPassed(1, 5)", x.ifPassed(1, 5), -2);
        x = Checks.withPeople("4f50,1f7");
        before = Checks.answers(x);
        c.refused(x, before, "bestPlace(2, 0)", x.bestPlace(2, 0), -1);
        c.refused(x, before, "bestPlace(-1, 0)", x.bestPlace(-1, 0), -1);
        c.refused(x, before, "bestPlace(2, 2)", x.bestPlace(2, 2), -1);
        c.refused(x, before, "bestPlace(1, 2)", x.bestPlace(1, 2), -2);
        c.refused(x, before, "bestPlace(1, -1)", x.bestPlace(1, -1), -2);
    }
}
