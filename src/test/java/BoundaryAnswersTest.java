/** The boundary cases of what can be asked, promises 10 to 15; each test stands below its sentence. */
public final class BoundaryAnswersTest {
    private static final int PURR = PurrProbates.PURR, ALLOW = PurrProbates.ALLOW, MONTH = PurrProbates.MONTH,
            BARS = PurrProbates.BARS, SOUR = PurrProbates.SOUR;
    private static final int LEAST = Integer.MIN_VALUE, GREATEST = Integer.MAX_VALUE;

    public static void main(String[] args) {
        Checks c = new Checks("BoundaryAnswersTest");
        personWhat(c);
        personNoSuch(c);
        countWhat(c);
        countTurnAndGuardian(c);
        nextWhat(c);
        nextOfTomorrow(c);
        nextWithinFiveHundred(c);
        nextBehindADeposing(c);
        nextOfNobody(c);
        emptyNow(c);
        emptyTomorrow(c);
        emptyWithinTwoThousand(c);
        emptyBeyondTheLastDay(c);
        ifPassedRanges(c);
        ifPassedOneAndFiveHundred(c);
        ifPassedCountsOnlyThoseDays(c);
        bestPlaceRanges(c);
        bestPlaceOfEqualOnes(c);
        bestPlaceOfTheOnlyOne(c);
        bestPlaceOfABarredOne(c);
        bestPlaceOfAHundredDays(c);
        bestPlaceFarBehind(c);
        nothingChanges(c);
        c.finish();
    }

    // "NO_SUCH if there is no such person; BAD_VALUE if what is out of range"

    private static void personWhat(Checks c) {
        PurrProbates x = Checks.withPeople("9f100");
        c.due("person(0, -1)", x.person(0, -1), -2);
        c.due("person(0, 9)", x.person(0, 9), -2);
        c.due("person(0, least)", x.person(0, LEAST), -2);
        c.due("person(0, greatest)", x.person(0, GREATEST), -2);
        c.due("person(0, 0)", x.person(0, 0), 9);
        c.due("person(0, 1)", x.person(0, 1), 100);
        c.due("person(0, 8)", x.person(0, 8), 0);
    }

    private static void personNoSuch(Checks c) {
        for (int size = 0; size <= 8; size++) {
            PurrProbates x = new PurrProbates();
            for (int i = 0; i < size; i++) {
                x.add(9, i);
            }
            c.due("person(size, 0)", x.person(size, 0), -1);
            c.due("person(8, 0)", x.person(8, 0), -1);
            c.due("person(-1, 0)", x.person(-1, 0), -1);
            c.due("person(least, 0)", x.person(LEAST, 0), -1);
            c.due("person(greatest, 0)", x.person(GREATEST, 0), -1);
            if (size > 0) {
                c.due("person(size - 1, 1)", x.person(size - 1, 1), size - 1);
            }
        }
        // nobody of those who were undone can be asked
        PurrProbates y = Checks.withPeople("9f0,8f0");
        y.undo();
        c.due("person(0, 0)", y.person(0, 0), -1);
    }

    private static void countWhat(Checks c) {
        PurrProbates x = new PurrProbates();
        c.due("count(-1)", x.count(-1), -2);
        c.due("count(21)", x.count(21), -2);
        c.due("count(least)", x.count(LEAST), -2);
        c.due("count(greatest)", x.count(GREATEST), -2);
        c.due("count(0)", x.count(0), 70);
        c.due("count(5)", x.count(5), 20);
        c.due("count(6)", x.count(6), 0);
        c.due("count(20)", x.count(20), 0);
    }

    // "9 the guardian (NONE), 10 the turn (NONE with a guardian)"

    private static void countTurnAndGuardian(Checks c) {
        PurrProbates x = Checks.withPeople("1f0,9f0");
        c.due("guardian", x.count(9), -6);
        c.due("turn", x.count(10), 0);
        x.pass(1);
        c.due("turn", x.count(10), 1);
        x.pass(1);
        c.due("guardian", x.count(9), 1);
        c.due("turn", x.count(10), -6);
        x.stepDown();
        c.due("guardian", x.count(9), -6);
        c.due("turn", x.count(10), 0);
    }

    // "BAD_VALUE if what is neither 0 nor 1"

    private static void nextWhat(Checks c) {
        PurrProbates x = Checks.withPeople("9f0");
        c.due("next(-1)", x.next(-1), -2);
        c.due("next(2)", x.next(2), -2);
        c.due("next(least)", x.next(LEAST), -2);
        c.due("next(greatest)", x.next(GREATEST), -2);
        c.due("next(0)", x.next(0), 0);
        c.due("next(1)", x.next(1), 1);
    }

    // "the first one whom a purr makes the guardian from now on", "behind how many days"

    private static void nextOfTomorrow(Checks c) {
        for (int place = 0; place < 8; place++) {
            PurrProbates x = new PurrProbates();
            for (int i = 0; i < 8; i++) {
                x.add(i == place ? 9 : 1, 0);
            }
            c.due("next(0)", x.next(0), place);
            c.due("next(1)", x.next(1), place + 1);
            x.pass(place + 1);
            c.due("guardian", x.count(9), place);
            c.due("next(0), the guardian of today is none of then", x.next(0), -6);
        }
    }

    // "NONE if nobody does within 500 days"

    /** Fed as long as the estate lasts, deposed on the day 560, and again the guardian on the day 561. */
    private static PurrProbates againOnTheDay561() {
        PurrProbates x = Checks.withPeople("9f100");
        x.set(MONTH, 40);
        x.set(ALLOW, 80);
        x.set(SOUR, 60);
        return x;
    }

    private static void nextWithinFiveHundred(Checks c) {
        PurrProbates x = againOnTheDay561();
        x.pass(60);
        c.due("guardian", x.count(9), 0);
        c.due("next(0) behind 501 days", x.next(0), -6);
        c.due("next(1) behind 501 days", x.next(1), -6);
        x.pass(1);
        c.due("next(0) behind 500 days", x.next(0), 0);
        c.due("next(1) behind 500 days", x.next(1), 500);
        x.pass(1);
        c.due("next(1) behind 499 days", x.next(1), 499);
    }

    private static void nextBehindADeposing(Checks c) {
        PurrProbates x = againOnTheDay561();
        for (int i = 0; i < 5; i++) {
            x.pass(99);
        }
        x.pass(64);
        c.due("days", x.count(6), 559);
        c.due("deposed", x.count(15), 0);
        c.due("next(1), tomorrow is the deposing", x.next(1), 2);
        x.pass(1);
        c.due("deposed", x.count(15), 1);
        c.due("next(1)", x.next(1), 1);
    }

    private static void nextOfNobody(Checks c) {
        PurrProbates x = new PurrProbates();
        c.due("next(0) in an empty list", x.next(0), -6);
        c.due("next(1) in an empty list", x.next(1), -6);
        x.add(9, 0);
        x.set(PURR, 200);
        c.due("next(0) of one who will be barred", x.next(0), -6);
        x.pass(3);
        c.due("barred", x.count(12), 1);
        x.set(PURR, 1);
        c.due("next(0) of one who is barred", x.next(0), -6);
        c.due("next(1) of one who is barred", x.next(1), -6);
    }

    // "Returns how many, 0 if it is"

    private static void emptyNow(Checks c) {
        PurrProbates x = new PurrProbates();
        x.set(MONTH, 5);
        x.set(ALLOW, 200);
        x.pass(49);
        c.due("untilEmpty()", x.untilEmpty(), 1);
        x.pass(1);
        c.due("untilEmpty() of nothing", x.untilEmpty(), 0);
        x.pass(1);
        c.due("untilEmpty() of nothing", x.untilEmpty(), 0);
        x.give(1);
        c.due("untilEmpty() of 1", x.untilEmpty(), 4);
    }

    private static void emptyTomorrow(Checks c) {
        PurrProbates x = Checks.withPeople("9f50");
        x.set(MONTH, 5);
        x.set(ALLOW, 200);
        c.due("untilEmpty(), just 5 allowances", x.untilEmpty(), 25);
        x.give(1);
        c.due("untilEmpty(), 1 more", x.untilEmpty(), 30);
        x.pass(29);
        c.due("untilEmpty()", x.untilEmpty(), 1);
        c.due("estate", x.count(11), 1);
    }

    // "NONE if it is not within 2000"

    private static void emptyWithinTwoThousand(Checks c) {
        PurrProbates x = new PurrProbates();
        x.set(MONTH, 40);
        x.set(ALLOW, 40);
        c.due("untilEmpty() behind 2000 days", x.untilEmpty(), 2000);
        x.pass(1);
        c.due("untilEmpty() behind 1999 days", x.untilEmpty(), 1999);
        x.give(1);
        c.due("untilEmpty() behind 2039 days", x.untilEmpty(), -6);
        x.pass(38);
        c.due("untilEmpty() behind 2001 days", x.untilEmpty(), -6);
        x.pass(1);
        c.due("untilEmpty() behind 2000 days", x.untilEmpty(), 2000);
    }

    /** What would be is told beyond the day 9999, too: only pass is refused there. */
    private static void emptyBeyondTheLastDay(Checks c) {
        PurrProbates x = new PurrProbates();
        x.set(ALLOW, 0);
        for (int i = 0; i < 101; i++) {
            x.pass(99);
        }
        x.set(ALLOW, 200);
        c.due("days", x.count(6), 9999);
        // the days 10024, 10052 and so on, 100 each
        c.due("untilEmpty()", x.untilEmpty(), 25 + 9 * 28);
        c.due("ifPassed(24, 2)", x.ifPassed(24, 2), 0);
        c.due("ifPassed(25, 2)", x.ifPassed(25, 2), 100);
        x.add(9, 0);
        c.due("next(1)", x.next(1), 1);
        c.due("bestPlace(0, 1)", x.bestPlace(0, 1), 100);
    }

    // "days: 1 to 500; what: 0 purrs ... 4 the guardian then"; "BAD_VALUE if an argument is out of range"

    private static void ifPassedRanges(Checks c) {
        PurrProbates x = Checks.withPeople("9f0");
        int[][] wrong = {{0, 0}, {501, 0}, {-1, 0}, {LEAST, 0}, {GREATEST, 0}, {1, -1}, {1, 5}, {1, LEAST},
            {1, GREATEST}, {500, 5}, {0, 4}, {501, 4}};
        for (int[] w : wrong) {
            c.due("ifPassed(" + w[0] + ", " + w[1] + ")", x.ifPassed(w[0], w[1]), -2);
        }
        int[] behindOne = {1, 0, 0, 50, 0};
        for (int what = 0; what <= 4; what++) {
            c.due("ifPassed(1, " + what + ")", x.ifPassed(1, what), behindOne[what]);
            c.due("ifPassed(500, " + what + ")", x.ifPassed(500, what), behindOne[what]);
        }
    }

    private static void ifPassedOneAndFiveHundred(Checks c) {
        PurrProbates x = new PurrProbates();
        x.set(MONTH, 5);
        x.set(ALLOW, 2);
        c.due("ifPassed(499, 2)", x.ifPassed(499, 2), 99);
        c.due("ifPassed(500, 2)", x.ifPassed(500, 2), 100);
        x.pass(4);
        c.due("ifPassed(1, 2)", x.ifPassed(1, 2), 1);
        x.pass(1);
        c.due("ifPassed(1, 2)", x.ifPassed(1, 2), 0);
        PurrProbates y = Checks.withPeople("1f0,1f0,1f0");
        y.set(PURR, 200);
        c.due("ifPassed(9, 1)", y.ifPassed(9, 1), 9);
        c.due("ifPassed(500, 1), until all are barred", y.ifPassed(500, 1), 9);
        c.due("ifPassed(9, 3)", y.ifPassed(9, 3), 32);
        c.due("ifPassed(27, 3)", y.ifPassed(27, 3), 50);
        c.due("ifPassed(500, 4)", y.ifPassed(500, 4), -6);
    }

    // "Tells what days would bring": purrs, scratches and fed coins of those days, not those so far

    private static void ifPassedCountsOnlyThoseDays(Checks c) {
        PurrProbates x = Checks.withPeople("1f0,9f50");
        x.set(MONTH, 5);
        x.pass(5);
        c.due("purrs so far", x.count(14), 1);
        c.due("scratches so far", x.count(13), 1);
        c.due("fed so far", x.count(16), 15);
        c.due("ifPassed(4, 0)", x.ifPassed(4, 0), 0);
        c.due("ifPassed(4, 1)", x.ifPassed(4, 1), 0);
        c.due("ifPassed(4, 2)", x.ifPassed(4, 2), 0);
        c.due("ifPassed(5, 2)", x.ifPassed(5, 2), 15);
        c.due("ifPassed(4, 4)", x.ifPassed(4, 4), 1);
    }

    // "NO_SUCH if there is no such person; BAD_VALUE if what is neither 0 nor 1"

    private static void bestPlaceRanges(Checks c) {
        PurrProbates x = new PurrProbates();
        c.due("bestPlace(0, 0) in an empty list", x.bestPlace(0, 0), -1);
        for (int size = 1; size <= 8; size++) {
            x.add(9, 0);
            c.due("bestPlace(size, 0)", x.bestPlace(size, 0), -1);
            c.due("bestPlace(-1, 0)", x.bestPlace(-1, 0), -1);
            c.due("bestPlace(size - 1, -1)", x.bestPlace(size - 1, -1), -2);
            c.due("bestPlace(size - 1, 2)", x.bestPlace(size - 1, 2), -2);
            c.due("bestPlace(size - 1, 1)", x.bestPlace(size - 1, 1), size == 1 ? 100 : 0);
        }
    }

    // "of several the lowest"

    private static void bestPlaceOfEqualOnes(Checks c) {
        PurrProbates x = Checks.withPeople("9f0,1f0,1f0,1f0,1f0,1f0,1f0,9f0");
        for (int person = 0; person < 8; person++) {
            c.due("bestPlace(" + person + ", 0)", x.bestPlace(person, 0), 0);
            c.due("bestPlace(" + person + ", 1)", x.bestPlace(person, 1), person == 0 ? 100 : 0);
        }
        // the turn goes along with its person, so that every place is as good
        PurrProbates y = Checks.withPeople("1f0,1f0,9f0,1f0");
        y.set(BARS, 1);
        y.set(PURR, 91);
        y.pass(2);
        c.due("turn", y.count(10), 2);
        c.due("bestPlace(2, 0)", y.bestPlace(2, 0), 0);
        c.due("bestPlace(2, 1)", y.bestPlace(2, 1), 100);
    }

    private static void bestPlaceOfTheOnlyOne(Checks c) {
        PurrProbates x = Checks.withPeople("9f0");
        c.due("bestPlace(0, 0)", x.bestPlace(0, 0), 0);
        c.due("bestPlace(0, 1)", x.bestPlace(0, 1), 100);
        x.set(PURR, 200);
        c.due("bestPlace(0, 0)", x.bestPlace(0, 0), 0);
        c.due("bestPlace(0, 1)", x.bestPlace(0, 1), 0);
    }

    private static void bestPlaceOfABarredOne(Checks c) {
        PurrProbates x = Checks.withPeople("1f0,9f0,9f0");
        x.pass(1);
        x.set(BARS, 1);
        c.due("barred", x.person(0, 4), 1);
        c.due("bestPlace(0, 0)", x.bestPlace(0, 0), 0);
        c.due("bestPlace(0, 1)", x.bestPlace(0, 1), 0);
        c.due("bestPlace(2, 0), at every place the second is asked first", x.bestPlace(2, 0), 0);
        c.due("bestPlace(2, 1)", x.bestPlace(2, 1), 0);
    }

    // "at the ends of the most of the next 100 days"

    private static void bestPlaceOfAHundredDays(Checks c) {
        PurrProbates x = Checks.withPeople("9f0,1f0");
        c.due("bestPlace(0, 1), from the first day", x.bestPlace(0, 1), 100);
        x.pass(50);
        c.due("bestPlace(0, 1), without the days so far", x.bestPlace(0, 1), 100);
        x.set(SOUR, 60);
        x.set(MONTH, 10);
        // deposed on each day 60, 70 to 150: the ends of those 10 days are not as guardian
        c.due("bestPlace(0, 1), deposed 10 times", x.bestPlace(0, 1), 90);
        x.set(MONTH, 40);
        c.due("bestPlace(0, 1), deposed on the days 80 and 120", x.bestPlace(0, 1), 98);
    }

    // "the place in the list at which a person, moved there now, would be the guardian"

    private static void bestPlaceFarBehind(Checks c) {
        // the turn stays with the sixth, who fails; of the warm two it is whoever comes just behind them
        PurrProbates x = Checks.withPeople("1f0,1f0,1f0,1f0,1f0,1f0,9f0,9f0");
        x.pass(5);
        c.due("turn", x.count(10), 5);
        c.due("bestPlace(7, 0)", x.bestPlace(7, 0), 6);
        c.due("bestPlace(7, 1)", x.bestPlace(7, 1), 99);
        c.due("bestPlace(6, 0)", x.bestPlace(6, 0), 6);
        c.due("move(7, 6)", x.move(7, 6), 2);
        c.due("pass(99)", x.pass(99), 1);
        c.due("days as guardian", x.person(6, 7), 98);
    }

    // "what if; nothing changes"

    private static void nothingChanges(Checks c) {
        PurrProbates x = Checks.withPeople("1f0,9f50,1f0");
        x.set(MONTH, 5);
        x.pass(1);
        x.put('5');
        String before = Checks.answers(x);
        x.next(0);
        x.untilEmpty();
        x.ifPassed(500, 2);
        x.bestPlace(1, 0);
        x.next(2);
        x.ifPassed(501, 0);
        x.bestPlace(3, 0);
        c.due("all answers", Checks.answers(x), before);
        c.due("undo()", x.undo(), 2);
        c.due("undo()", x.undo(), 1);
        c.due("undo()", x.undo(), 0);
        c.due("people", x.count(7), 0);
    }
}
