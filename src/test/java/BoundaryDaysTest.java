/** The boundary cases of the settings and of a day, promises 2, 8 and 9; each test stands below its sentence. */
public final class BoundaryDaysTest {
    private static final int PURR = PurrProbates.PURR, ALLOW = PurrProbates.ALLOW, MONTH = PurrProbates.MONTH,
            BARS = PurrProbates.BARS, SOUR = PurrProbates.SOUR;

    public static void main(String[] args) {
        Checks c = new Checks("BoundaryDaysTest");
        settings(c);
        giveRange(c);
        giveToTheMost(c);
        passRange(c);
        passToTheLastDay(c);
        purrsOfManyDays(c);
        barredFromBars(c);
        barredAboveBars(c);
        scoreOfPurr(c);
        scoreBelowNothing(c);
        moodOfNothing(c);
        handsAroundTheEnd(c);
        onlyOneIsLeft(c);
        nobodyIsLeft(c);
        nobodyIsThere(c);
        oneHandADay(c);
        noHandsWithAGuardian(c);
        turnBehindTheLast(c);
        firstAndLastDayOfAMonth(c);
        shortestAndLongestMonth(c);
        allowanceAndEstate(c);
        shareOfNothingAndOfAll(c);
        moodOfTheMost(c);
        courtAndEstate(c);
        noAllowance(c);
        sourOfTheSameMood(c);
        sourBeforeTheDaysEnd(c);
        sourWithoutAGuardian(c);
        sourOfNothing(c);
        deposedTurn(c);
        nearerToFifty(c);
        c.finish();
    }

    // "BAD_VALUE if there is no such setting, or value is out of its range"

    private static void settings(Checks c) {
        int[] lowest = {1, 0, 0, 5, 1, 0};
        int[] highest = {200, 200, 99, 40, 9, 60};
        for (int setting = 0; setting < 6; setting++) {
            PurrProbates x = new PurrProbates();
            int first = x.count(setting);
            c.due("set one too low", x.set(setting, lowest[setting] - 1), -2);
            c.due("set one too high", x.set(setting, highest[setting] + 1), -2);
            c.due("set least", x.set(setting, Integer.MIN_VALUE), -2);
            c.due("set greatest", x.set(setting, Integer.MAX_VALUE), -2);
            c.due("count", x.count(setting), first);
            c.due("set to the lowest", x.set(setting, lowest[setting]), first);
            c.due("set to the highest", x.set(setting, highest[setting]), lowest[setting]);
            c.due("count", x.count(setting), highest[setting]);
        }
        PurrProbates y = new PurrProbates();
        c.due("set(-1, 9)", y.set(-1, 9), -2);
        c.due("set(6, 9)", y.set(6, 9), -2);
        c.due("set(least, 9)", y.set(Integer.MIN_VALUE, 9), -2);
        c.due("set(greatest, 9)", y.set(Integer.MAX_VALUE, 9), -2);
        c.due("changes", y.count(20), 0);
    }

    // "coins: 1 to 9999"

    private static void giveRange(Checks c) {
        PurrProbates x = new PurrProbates();
        c.due("give(0)", x.give(0), -2);
        c.due("give(10000)", x.give(10000), -2);
        c.due("give(-1)", x.give(-1), -2);
        c.due("give(least)", x.give(Integer.MIN_VALUE), -2);
        c.due("give(greatest)", x.give(Integer.MAX_VALUE), -2);
        c.due("given", x.count(18), 0);
        c.due("give(1)", x.give(1), 1001);
        c.due("give(9999)", x.give(9999), 11000);
        c.due("given", x.count(18), 10000);
    }

    // "TOO_MANY if that would be more than 99999"

    private static void giveToTheMost(Checks c) {
        PurrProbates x = new PurrProbates();
        for (int i = 0; i < 9; i++) {
            x.give(9999);
        }
        c.due("estate", x.count(11), 90991);
        c.due("give(9009)", x.give(9009), -4);
        c.due("give(9999)", x.give(9999), -4);
        c.due("estate", x.count(11), 90991);
        c.due("give(9008)", x.give(9008), 99999);
        c.due("give(1)", x.give(1), -4);
        x.pass(28);
        c.due("estate, a month later", x.count(11), 99984);
        c.due("give(16)", x.give(16), -4);
        c.due("give(15)", x.give(15), 99999);
    }

    // "days: 1 to 99"

    private static void passRange(Checks c) {
        PurrProbates x = new PurrProbates();
        c.due("pass(0)", x.pass(0), -2);
        c.due("pass(100)", x.pass(100), -2);
        c.due("pass(-1)", x.pass(-1), -2);
        c.due("pass(least)", x.pass(Integer.MIN_VALUE), -2);
        c.due("pass(greatest)", x.pass(Integer.MAX_VALUE), -2);
        c.due("days", x.count(6), 0);
        c.due("pass(1)", x.pass(1), 0);
        c.due("pass(99)", x.pass(99), 0);
        c.due("days", x.count(6), 100);
    }

    // "TOO_MANY if the days would be above 9999"

    private static void passToTheLastDay(Checks c) {
        PurrProbates x = new PurrProbates();
        for (int i = 0; i < 100; i++) {
            x.pass(99);
        }
        x.pass(1);
        c.due("days", x.count(6), 9901);
        c.due("pass(99)", x.pass(99), -4);
        c.due("days", x.count(6), 9901);
        c.due("pass(98)", x.pass(98), 0);
        c.due("days", x.count(6), 9999);
        c.due("pass(1)", x.pass(1), -4);
        c.due("pass(99)", x.pass(99), -4);
        c.due("pass(0)", x.pass(0), -2);
        c.due("undo()", x.undo(), 5);
        c.due("pass(99)", x.pass(99), -4);
        c.due("pass(97)", x.pass(97), 0);
        c.due("pass(2)", x.pass(2), -4);
        c.due("pass(1)", x.pass(1), 0);
    }

    // "Returns how often the cat purrs in them"

    private static void purrsOfManyDays(Checks c) {
        // a purr on the days 1, 6, 11 ..., deposed on the days 5, 10, 15 ...
        PurrProbates x = Checks.withPeople("9f0");
        x.set(MONTH, 5);
        x.set(SOUR, 60);
        c.due("pass(5)", x.pass(5), 1);
        c.due("pass(1)", x.pass(1), 1);
        c.due("pass(4)", x.pass(4), 0);
        c.due("pass(99)", x.pass(99), 20);
        c.due("purrs", x.count(14), 22);
        c.due("purrs of the person", x.person(0, 6), 22);
        c.due("deposed", x.count(15), 21);
    }

    // "A person with BARS scratches or more is barred."

    private static void barredFromBars(Checks c) {
        for (int bars = 1; bars <= 9; bars++) {
            PurrProbates x = Checks.withPeople("1f1");
            x.set(PURR, 200);
            x.set(BARS, bars);
            if (bars > 1) {
                x.pass(bars - 1);
            }
            c.due("scratches", x.person(0, 2), bars - 1);
            c.due("barred with one less than " + bars, x.person(0, 4), 0);
            x.pass(1);
            c.due("barred with " + bars, x.person(0, 4), 1);
            c.due("barred people", x.count(12), 1);
            x.pass(9);
            c.due("scratches", x.person(0, 2), bars);
        }
    }

    private static void barredAboveBars(Checks c) {
        PurrProbates x = Checks.withPeople("1f1,1f1");
        x.set(PURR, 200);
        x.pass(5);
        c.due("scratches", x.person(0, 2) * 10 + x.person(1, 2), 32);
        c.due("barred", x.count(12), 1);
        x.set(BARS, 2);
        c.due("barred", x.count(12), 2);
        x.set(BARS, 1);
        c.due("barred", x.count(12), 2);
        x.set(BARS, 4);
        c.due("barred", x.count(12), 0);
        x.pass(1);
        c.due("scratches", x.person(0, 2) * 10 + x.person(1, 2), 33);
    }

    // "if the score is PURR or more, the cat purrs"

    private static void scoreOfPurr(Checks c) {
        for (int warmth = 1; warmth <= 9; warmth++) {
            PurrProbates x = new PurrProbates();
            x.add(warmth, 0);
            x.set(PURR, 51 + 5 * warmth);
            c.due("ifPassed(1, 0), one below PURR", x.ifPassed(1, 0), 0);
            c.due("ifPassed(1, 1), one below PURR", x.ifPassed(1, 1), 1);
            x.set(PURR, 50 + 5 * warmth);
            c.due("ifPassed(1, 0), at PURR", x.ifPassed(1, 0), 1);
            c.due("ifPassed(1, 1), at PURR", x.ifPassed(1, 1), 0);
            x.set(PURR, 49 + 5 * warmth);
            c.due("pass(1), one above PURR", x.pass(1), 1);
            c.due("purrs", x.person(0, 6), 1);
            c.due("mood, as it was", x.count(8), 50);
        }
    }

    // "(it can be below 0)"

    private static PurrProbates scratchedForTwentyFiveDays() {
        PurrProbates x = Checks.withPeople("1f1,1f1,1f1,1f1,1f1,1f1,1f1,1f1");
        x.set(PURR, 200);
        x.set(BARS, 9);
        x.set(ALLOW, 0);
        x.pass(25);
        return x;
    }

    private static void scoreBelowNothing(Checks c) {
        PurrProbates x = scratchedForTwentyFiveDays();
        c.due("scratches", x.person(0, 2) * 10 + x.person(1, 2), 43);
        c.due("score of 1 + 5 - 40", x.person(0, 5), 966);
        x.set(PURR, 1);
        c.due("pass(1), a score of -24", x.pass(1), 0);
        x.pass(46);
        c.due("barred", x.count(12), 8);
        c.due("the lowest score, 1 + 5 - 90", x.person(7, 5), 916);
    }

    // "the mood becomes 3 less (0 at least)"

    private static void moodOfNothing(Checks c) {
        PurrProbates x = scratchedForTwentyFiveDays();
        c.due("mood, from 2 to 0, then 1", x.count(8), 1);
        c.due("mood, from 1 to 0, then 1", x.ifPassed(1, 3), 1);
        c.due("mood of many such days", x.ifPassed(40, 3), 1);
        // a day without a scratch lets it become 2, then 3, then 4
        int[] moods = {1, 1, 1, 2, 3, 4};
        for (int still = 1; still <= 5; still++) {
            x.set(BARS, 1);
            x.pass(1);
            c.due("mood without a scratch", x.count(8), still + 1);
            x.set(BARS, 9);
            c.due("mood behind a scratch", x.ifPassed(1, 3), moods[still]);
        }
    }

    // "the next person who is not barred, from the turn on, and around the list behind its end"

    private static void handsAroundTheEnd(Checks c) {
        // a scratch each on the days 1 to 3; then the turn is 0, and is moved with its person
        for (int place = 0; place < 4; place++) {
            PurrProbates x = Checks.withPeople("1f1,1f2,1f3");
            x.set(PURR, 200);
            x.pass(3);
            x.set(BARS, 1);
            x.add(1, 4);
            x.move(0, 2);
            x.move(3, place);
            int turn = x.count(10);
            c.due("turn", turn, place <= 2 ? 3 : 2);
            c.due("its person is barred", x.person(turn, 4), 1);
            x.pass(1);
            c.due("scratches of the only one who is not", x.person(place, 2), 1);
            c.due("scratches", x.count(13), 4);
            c.due("turn behind " + place, x.count(10), (place + 1) % 4);
        }
    }

    private static void onlyOneIsLeft(Checks c) {
        PurrProbates x = Checks.withPeople("1f1,9f2");
        x.set(PURR, 97);
        x.set(BARS, 1);
        x.pass(1);
        c.due("barred", x.person(0, 4), 1);
        x.set(PURR, 93);
        c.due("the second, who has 48 and 45", x.pass(1), 1);
        c.due("guardian", x.count(9), 1);
        x.stepDown();
        c.due("turn, at one who is barred", x.count(10), 0);
        c.due("next(0)", x.next(0), 1);
        c.due("next(1), nobody holds out a hand in vain", x.next(1), 1);
    }

    // "holds out a hand, if there is one"

    private static void nobodyIsLeft(Checks c) {
        PurrProbates x = Checks.withPeople("1f1,1f2,1f3");
        x.set(PURR, 200);
        x.set(BARS, 1);
        x.pass(2);
        c.due("mood", x.count(8), 46);
        x.pass(1);
        c.due("mood", x.count(8), 44);
        x.pass(1);
        c.due("mood, nobody is scratched", x.count(8), 45);
        c.due("turn", x.count(10), 0);
        c.due("scratches", x.count(13), 3);
        x.set(PURR, 1);
        c.due("pass(9), nobody holds out a hand", x.pass(9), 0);
        x.add(9, 9);
        c.due("pass(1), the new one does", x.pass(1), 1);
        c.due("guardian", x.count(9), 3);
    }

    private static void nobodyIsThere(Checks c) {
        PurrProbates x = new PurrProbates();
        c.due("pass(99)", x.pass(99), 0);
        c.due("mood", x.count(8), 50);
        c.due("guardian", x.count(9), -6);
        c.due("turn", x.count(10), 0);
        c.due("scratches", x.count(13), 0);
        c.due("barred", x.count(12), 0);
        c.due("purses", x.count(17), 0);
        c.due("fed by the court in 3 months", x.count(16), 45);
        x.add(4, 4);
        c.due("pass(1) with somebody", x.pass(1), 1);
    }

    // "(one person a day; barred ones are passed over)"

    private static void oneHandADay(Checks c) {
        PurrProbates x = Checks.withPeople("1f1,1f2,9f3");
        for (int day = 1; day <= 2; day++) {
            c.due("pass(1)", x.pass(1), 0);
            c.due("scratches", x.count(13), day);
            c.due("turn", x.count(10), day);
        }
        c.due("pass(1)", x.pass(1), 1);
        c.due("scratches", x.count(13), 2);
    }

    // "If the cat has no guardian"

    private static void noHandsWithAGuardian(Checks c) {
        PurrProbates x = Checks.withPeople("9f0,1f1,1f2");
        x.set(ALLOW, 0);
        c.due("pass(1)", x.pass(1), 1);
        c.due("pass(99)", x.pass(99), 0);
        c.due("scratches", x.count(13), 0);
        c.due("purrs", x.count(14), 1);
        c.due("days as guardian", x.person(0, 7), 100);
        c.due("deposed", x.count(15), 0);
    }

    // "the turn is the place behind this person (0 behind the last one)"

    private static void turnBehindTheLast(Checks c) {
        for (int size = 1; size <= 8; size++) {
            PurrProbates x = new PurrProbates();
            for (int i = 0; i < size; i++) {
                x.add(1, 0);
            }
            x.set(PURR, 200);
            for (int day = 1; day <= size + 1; day++) {
                x.pass(1);
                c.due("turn behind " + day + " days with " + size, x.count(10), day % size);
            }
        }
    }

    // "If the count of days is a multiple of MONTH, the month ends"

    private static void firstAndLastDayOfAMonth(Checks c) {
        PurrProbates x = new PurrProbates();
        x.pass(27);
        c.due("fed on the day 27", x.count(16), 0);
        x.pass(1);
        c.due("fed on the day 28", x.count(16), 15);
        x.pass(27);
        c.due("fed on the day 55", x.count(16), 15);
        x.pass(1);
        c.due("fed on the day 56", x.count(16), 30);
    }

    // "MONTH (5 to 40; 28): days"

    private static void shortestAndLongestMonth(Checks c) {
        PurrProbates x = new PurrProbates();
        x.set(MONTH, 5);
        c.due("fed in 4 days", x.ifPassed(4, 2), 0);
        c.due("fed in 5 days", x.ifPassed(5, 2), 15);
        c.due("fed in 9 days", x.ifPassed(9, 2), 15);
        x.set(MONTH, 40);
        c.due("fed in 39 days", x.ifPassed(39, 2), 0);
        c.due("fed in 40 days", x.ifPassed(40, 2), 15);
        c.due("fed in 79 days", x.ifPassed(79, 2), 15);
        c.due("fed in 80 days", x.ifPassed(80, 2), 30);
    }

    // "ALLOW, or all that the estate has, if that is less, is paid"

    private static PurrProbates guardianWhoIsPaid(String person) {
        PurrProbates x = Checks.withPeople(person);
        x.set(MONTH, 5);
        x.set(ALLOW, 200);
        x.set(SOUR, 0);
        return x;
    }

    private static void allowanceAndEstate(Checks c) {
        PurrProbates x = guardianWhoIsPaid("9f0");
        x.pass(20);
        c.due("estate, just the allowance", x.count(11), 200);
        x.pass(5);
        c.due("estate", x.count(11), 0);
        c.due("purse", x.person(0, 3), 1000);
        x.pass(5);
        c.due("purse, nothing is paid", x.person(0, 3), 1000);
        x.give(199);
        x.pass(5);
        c.due("estate, one less than the allowance", x.count(11), 0);
        c.due("purse", x.person(0, 3), 1199);
        x.give(201);
        x.pass(5);
        c.due("estate, one more than the allowance", x.count(11), 1);
        c.due("purse", x.person(0, 3), 1399);
        x.pass(5);
        c.due("estate, 1 is paid", x.count(11), 0);
        c.due("purse", x.person(0, 3), 1400);
        c.due("fed", x.count(16), 0);
    }

    // "of it share / 100 is fed ... and what is not fed comes into the guardian's purse"

    private static void shareOfNothingAndOfAll(Checks c) {
        int[] shares = {0, 1, 99, 100};
        int[] fed = {0, 2, 198, 200};
        for (int i = 0; i < 4; i++) {
            PurrProbates x = guardianWhoIsPaid("9f" + shares[i]);
            x.pass(5);
            c.due("fed of a share of " + shares[i], x.count(16), fed[i]);
            c.due("purse", x.person(0, 3), 200 - fed[i]);
            c.due("all purses", x.count(17), 200 - fed[i]);
            c.due("estate", x.count(11), 800);
        }
        PurrProbates y = guardianWhoIsPaid("9f99");
        y.set(ALLOW, 1);
        y.pass(5);
        c.due("fed of 1", y.count(16), 0);
        c.due("purse", y.person(0, 3), 1);
    }

    // "the mood becomes half of what is fed more (99 at most)"

    private static void moodOfTheMost(Checks c) {
        int[] fed = {95, 96, 97, 98, 99, 100, 102, 200};
        int[] moods = {97, 98, 98, 99, 99, 99, 99, 99};
        for (int i = 0; i < 8; i++) {
            PurrProbates x = guardianWhoIsPaid("9f100");
            x.set(ALLOW, fed[i]);
            x.pass(5);
            c.due("mood behind " + fed[i] + ", 1 nearer to 50", x.count(8), moods[i] - 1);
        }
    }

    // "half of ALLOW, or all that the estate has, is fed by the court (the mood does not change by it)"

    private static void courtAndEstate(Checks c) {
        PurrProbates x = new PurrProbates();
        x.set(MONTH, 5);
        x.set(ALLOW, 200);
        x.pass(45);
        c.due("estate, just half of the allowance", x.count(11), 100);
        x.pass(5);
        c.due("estate", x.count(11), 0);
        c.due("fed", x.count(16), 1000);
        x.pass(5);
        c.due("fed, nothing more", x.count(16), 1000);
        x.give(99);
        x.pass(5);
        c.due("estate, one less than half", x.count(11), 0);
        c.due("fed", x.count(16), 1099);
        x.give(101);
        x.pass(5);
        c.due("estate, one more than half", x.count(11), 1);
        c.due("fed", x.count(16), 1199);
        c.due("mood", x.count(8), 50);
        c.due("purses", x.count(17), 0);
    }

    // "ALLOW (0 to 200; 30): coins"

    private static void noAllowance(Checks c) {
        PurrProbates x = Checks.withPeople("9f50");
        x.set(MONTH, 5);
        x.set(ALLOW, 0);
        x.pass(25);
        c.due("estate", x.count(11), 1000);
        c.due("fed", x.count(16), 0);
        c.due("purse", x.person(0, 3), 0);
        x.stepDown();
        x.set(PURR, 200);
        x.set(ALLOW, 1);
        x.pass(25);
        c.due("estate, half of 1 is nothing", x.count(11), 1000);
        c.due("untilEmpty()", x.untilEmpty(), -6);
    }

    // "if there is a guardian, and the mood is below SOUR, the guardian is deposed"

    /** Scratches on the days 1 to 4, a purr on the day 5, whose month's end finds a mood of 42. */
    private static PurrProbates moodOfFortyTwo(int allow, int sour) {
        PurrProbates x = Checks.withPeople("1f0,1f0,1f0,1f0,9f100");
        x.set(MONTH, 5);
        x.set(ALLOW, allow);
        x.set(SOUR, sour);
        return x;
    }

    private static void sourOfTheSameMood(Checks c) {
        PurrProbates x = moodOfFortyTwo(0, 42);
        c.due("pass(5)", x.pass(5), 1);
        c.due("guardian, a mood of SOUR", x.count(9), 4);
        c.due("deposed", x.count(15), 0);
        c.due("days as guardian", x.person(4, 7), 1);
        PurrProbates y = moodOfFortyTwo(2, 43);
        y.pass(5);
        c.due("guardian, a mood of SOUR by what is fed", y.count(9), 4);
        PurrProbates z = moodOfFortyTwo(1, 43);
        z.pass(5);
        c.due("guardian, a mood one below SOUR", z.count(9), -6);
        c.due("deposed", z.count(15), 1);
        c.due("fed", z.count(16), 1);
    }

    // "Then, one after the other": the mood becomes nearer to 50 only behind the end of the month

    private static void sourBeforeTheDaysEnd(Checks c) {
        PurrProbates x = moodOfFortyTwo(0, 43);
        c.due("pass(5)", x.pass(5), 1);
        c.due("mood", x.count(8), 43);
        c.due("guardian", x.count(9), -6);
        c.due("days as guardian", x.person(4, 7), 0);
        c.due("purrs of the person", x.person(4, 6), 1);
    }

    private static void sourWithoutAGuardian(Checks c) {
        PurrProbates x = Checks.withPeople("1f0,1f0,1f0,1f0,1f0,1f0,1f0");
        x.set(MONTH, 5);
        x.set(SOUR, 60);
        x.pass(5);
        c.due("mood", x.count(8), 40);
        c.due("deposed, there was none", x.count(15), 0);
        c.due("turn, as it was", x.count(10), 5);
    }

    // "SOUR (0 to 60; 20)"

    /** The day 25, 7 barred people and a new one, who can be the guardian at the month's end of the day 26. */
    private static PurrProbates moodOfOne(int sour) {
        PurrProbates x = Checks.withPeople("1f1,1f1,1f1,1f1,1f1,1f1,1f1");
        x.set(PURR, 200);
        x.set(BARS, 9);
        x.set(ALLOW, 0);
        x.pass(25);
        x.add(9, 0);
        x.set(BARS, 1);
        x.set(PURR, 46);
        x.set(MONTH, 26);
        x.set(SOUR, sour);
        return x;
    }

    private static void sourOfNothing(Checks c) {
        for (int sour = 0; sour <= 2; sour++) {
            PurrProbates x = moodOfOne(sour);
            c.due("mood", x.count(8), 1);
            c.due("pass(1)", x.pass(1), 1);
            c.due("guardian with SOUR " + sour, x.count(9), sour == 2 ? -6 : 7);
        }
        PurrProbates y = moodOfFortyTwo(0, 0);
        y.pass(99);
        c.due("guardian with SOUR 0", y.count(9), 4);
        y.set(SOUR, 60);
        y.pass(1);
        c.due("guardian with SOUR 60 and a mood of 50", y.count(9), -6);
        c.due("deposed", y.count(15), 1);
    }

    // "there is none, and the turn is 0"

    private static void deposedTurn(Checks c) {
        PurrProbates x = moodOfFortyTwo(0, 43);
        x.move(4, 2);
        c.due("pass(3)", x.pass(3), 1);
        c.due("guardian", x.count(9), 2);
        x.set(SOUR, 60);
        x.pass(2);
        c.due("guardian", x.count(9), -6);
        c.due("turn", x.count(10), 0);
        x.pass(1);
        c.due("scratches of the first", x.person(0, 2), 2);
        c.due("turn", x.count(10), 1);
    }

    // "The mood becomes 1 nearer to 50."

    private static void nearerToFifty(Checks c) {
        PurrProbates x = guardianWhoIsPaid("9f100");
        x.set(ALLOW, 2);
        x.pass(5);
        c.due("mood, from 51", x.count(8), 50);
        x.pass(1);
        c.due("mood, from 50", x.count(8), 50);
        x.set(ALLOW, 4);
        x.pass(4);
        c.due("mood, from 52", x.count(8), 51);
        x.pass(1);
        c.due("mood, from 51", x.count(8), 50);
        PurrProbates y = Checks.withPeople("1f0,1f0");
        y.set(BARS, 1);
        y.pass(2);
        c.due("mood, 47 and 48, 45 and 46", y.count(8), 46);
        int[] moods = {47, 48, 49, 50, 50, 50};
        for (int day = 0; day < 6; day++) {
            y.pass(1);
            c.due("mood, nearer each day", y.count(8), moods[day]);
        }
    }
}
