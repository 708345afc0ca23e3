/** The boundary cases of guardians, promises 6 and 7; each test stands below its sentence. */
public final class BoundaryGuardianTest {
    private static final int PURR = PurrProbates.PURR, ALLOW = PurrProbates.ALLOW, COST = PurrProbates.COST,
            MONTH = PurrProbates.MONTH, BARS = PurrProbates.BARS;

    public static void main(String[] args) {
        Checks c = new Checks("BoundaryGuardianTest");
        stepDownOfNobody(c);
        stepDownFromEveryPlace(c);
        stepDownToABarredOne(c);
        stepDownIsNoDeposing(c);
        appealOfNoSuch(c);
        appealWithoutAGuardian(c);
        appealOfTheGuardian(c);
        appealOfABarredOne(c);
        appealOfThePurse(c);
        appealForNothing(c);
        appealForTheMost(c);
        appealOfTheSameScore(c);
        appealThatBars(c);
        appealTurnAtEveryPlace(c);
        appealOfANewPerson(c);
        appealAboveTheMostCoins(c);
        appealAgainstABarredGuardian(c);
        c.finish();
    }

    // "NOT_POSSIBLE if there is none"

    private static void stepDownOfNobody(Checks c) {
        PurrProbates x = new PurrProbates();
        c.refused(x, Checks.answers(x), "stepDown() in an empty list", x.stepDown(), -5);
        x.add(9, 0);
        c.refused(x, Checks.answers(x), "stepDown() ahead of the first purr", x.stepDown(), -5);
        x.pass(1);
        c.due("stepDown()", x.stepDown(), 0);
        c.refused(x, Checks.answers(x), "stepDown() again", x.stepDown(), -5);
    }

    // "the turn is the place behind the guardian (0 behind the last one)"; "Returns who was the guardian"

    private static PurrProbates withGuardianAt(int place, int size) {
        PurrProbates x = new PurrProbates();
        for (int i = 0; i < size; i++) {
            x.add(i == place ? 9 : 1, 0);
        }
        x.set(BARS, 9);
        x.pass(place + 1);
        return x;
    }

    private static void stepDownFromEveryPlace(Checks c) {
        for (int size = 1; size <= 8; size++) {
            for (int place = 0; place < size; place++) {
                PurrProbates x = withGuardianAt(place, size);
                c.due("guardian", x.count(9), place);
                c.due("stepDown() of " + place, x.stepDown(), place);
                c.due("guardian", x.count(9), -6);
                c.due("turn behind " + place + " of " + size, x.count(10), (place + 1) % size);
            }
        }
    }

    /** The turn is that place, whoever is there; the barred are passed over when a hand is held out. */
    private static void stepDownToABarredOne(Checks c) {
        PurrProbates x = withGuardianAt(1, 2);
        x.set(BARS, 1);
        c.due("barred", x.person(0, 4), 1);
        c.due("stepDown()", x.stepDown(), 1);
        c.due("turn", x.count(10), 0);
        c.due("pass(1)", x.pass(1), 1);
        c.due("guardian again", x.count(9), 1);
    }

    private static void stepDownIsNoDeposing(Checks c) {
        PurrProbates x = withGuardianAt(0, 1);
        x.stepDown();
        c.due("deposed", x.count(15), 0);
        c.due("days", x.count(6), 1);
        c.due("days as guardian", x.person(0, 7), 1);
        c.due("scratches", x.count(13), 0);
    }

    // "NO_SUCH if there is no such person"

    private static void appealOfNoSuch(Checks c) {
        PurrProbates x = new PurrProbates();
        c.due("appeal(0) in an empty list", x.appeal(0), -1);
        int[] sizes = {1, 7, 8};
        for (int size : sizes) {
            PurrProbates y = withGuardianAt(0, size);
            y.set(COST, 0);
            String before = Checks.answers(y);
            c.due("appeal(size)", y.appeal(size), -1);
            c.due("appeal(-1)", y.appeal(-1), -1);
            c.due("appeal(least)", y.appeal(Integer.MIN_VALUE), -1);
            c.due("appeal(greatest)", y.appeal(Integer.MAX_VALUE), -1);
            c.due("all answers", Checks.answers(y), before);
        }
    }

    // "NOT_POSSIBLE if there is no guardian, the person is the guardian or barred, or the purse has less than COST"

    private static void appealWithoutAGuardian(Checks c) {
        PurrProbates x = Checks.withPeople("9f0,1f0");
        x.set(COST, 0);
        c.refused(x, Checks.answers(x), "appeal(1)", x.appeal(1), -5);
        c.due("could appeal", x.person(1, 8), 0);
        x.pass(1);
        c.due("could appeal", x.person(1, 8), 1);
        x.stepDown();
        c.due("could appeal", x.person(1, 8), 0);
        c.refused(x, Checks.answers(x), "appeal(1)", x.appeal(1), -5);
    }

    private static void appealOfTheGuardian(Checks c) {
        PurrProbates x = withGuardianAt(2, 3);
        x.set(COST, 0);
        for (int place = 0; place < 3; place++) {
            c.due("could appeal", x.person(place, 8), place == 2 ? 0 : 1);
        }
        c.refused(x, Checks.answers(x), "appeal(2)", x.appeal(2), -5);
        x.move(2, 0);
        c.refused(x, Checks.answers(x), "appeal(0)", x.appeal(0), -5);
        c.due("appeal(2)", x.appeal(2), 0);
    }

    private static void appealOfABarredOne(Checks c) {
        PurrProbates x = withGuardianAt(1, 2);
        x.set(COST, 0);
        c.due("scratches", x.person(0, 2), 1);
        x.set(BARS, 1);
        c.due("could appeal with BARS scratches", x.person(0, 8), 0);
        c.refused(x, Checks.answers(x), "appeal(0)", x.appeal(0), -5);
        x.set(BARS, 2);
        c.due("could appeal with one less", x.person(0, 8), 1);
        c.due("appeal(0)", x.appeal(0), 0);
    }

    /** The first has a purse of 30, and the second is the guardian. */
    private static PurrProbates withAPurseOfThirty() {
        PurrProbates x = Checks.withPeople("4f0,9f0");
        x.set(MONTH, 5);
        x.pass(5);
        x.stepDown();
        x.pass(1);
        return x;
    }

    private static void appealOfThePurse(Checks c) {
        PurrProbates x = withAPurseOfThirty();
        c.due("guardian", x.count(9), 1);
        c.due("purse", x.person(0, 3), 30);
        x.set(COST, 31);
        c.due("could appeal, 1 too little", x.person(0, 8), 0);
        c.refused(x, Checks.answers(x), "appeal(0)", x.appeal(0), -5);
        x.set(COST, 30);
        c.due("could appeal, just enough", x.person(0, 8), 1);
        c.due("appeal(0)", x.appeal(0), 0);
        c.due("purse", x.person(0, 3), 0);
        c.due("estate", x.count(11), 1000);
        c.due("could appeal, nothing is left", x.person(0, 8), 0);
        x.undo();
        x.set(COST, 29);
        c.due("appeal(0), one more than enough", x.appeal(0), 0);
        c.due("purse", x.person(0, 3), 1);
        c.due("estate", x.count(11), 999);
    }

    // "COST (0 to 99; 10): coins."

    private static void appealForNothing(Checks c) {
        PurrProbates x = withGuardianAt(0, 2);
        c.due("could appeal with a purse of 0 and COST 10", x.person(1, 8), 0);
        x.set(COST, 1);
        c.refused(x, Checks.answers(x), "appeal(1)", x.appeal(1), -5);
        x.set(COST, 0);
        c.due("appeal(1)", x.appeal(1), 0);
        c.due("purse", x.person(1, 3), 0);
        c.due("estate", x.count(11), 1000);
    }

    private static void appealForTheMost(Checks c) {
        PurrProbates x = Checks.withPeople("4f0,9f0");
        x.set(MONTH, 5);
        x.set(ALLOW, 99);
        x.pass(5);
        x.stepDown();
        x.pass(1);
        x.set(COST, 99);
        c.due("appeal(0)", x.appeal(0), 0);
        c.due("purse", x.person(0, 3), 0);
        c.due("estate", x.count(11), 1000);
        c.due("fed, not by appeals", x.count(16), 0);
        c.due("given, not by appeals", x.count(18), 0);
    }

    // "If the person's score is greater than that of the guardian, the guardian is deposed"

    private static void appealOfTheSameScore(Checks c) {
        for (int warmth = 1; warmth <= 9; warmth++) {
            PurrProbates x = new PurrProbates();
            x.add(5, 0);
            x.add(warmth, 0);
            x.set(COST, 0);
            c.due("pass(1)", x.pass(1), 1);
            c.due("appeal of " + warmth + " against 5", x.appeal(1), warmth > 5 ? 1 : 0);
            c.due("guardian", x.count(9), warmth > 5 ? -6 : 0);
            c.due("deposed", x.count(15), warmth > 5 ? 1 : 0);
            c.due("scratches", x.person(1, 2), warmth > 5 ? 0 : 1);
            c.due("scratches so far", x.count(13), warmth > 5 ? 0 : 1);
            c.due("mood", x.count(8), 50);
        }
    }

    // "otherwise the person gets a scratch"

    private static void appealThatBars(Checks c) {
        PurrProbates x = withGuardianAt(0, 2);
        x.set(COST, 0);
        x.set(BARS, 2);
        c.due("appeal(1)", x.appeal(1), 0);
        c.due("barred", x.person(1, 4), 0);
        c.due("appeal(1)", x.appeal(1), 0);
        c.due("barred", x.person(1, 4), 1);
        c.due("barred people", x.count(12), 1);
        c.due("appeal(1)", x.appeal(1), -5);
        c.due("scratches", x.count(13), 2);
        c.due("guardian", x.count(9), 0);
    }

    // "and the turn is the place of this person"

    private static void appealTurnAtEveryPlace(Checks c) {
        for (int place = 0; place < 8; place++) {
            PurrProbates x = new PurrProbates();
            for (int i = 0; i < 8; i++) {
                x.add(i == place ? 9 : 5, 0);
            }
            x.set(COST, 0);
            x.pass(1);
            if (place == 0) {
                // whoever is the warmest has no one to appeal against: the guardian becomes the second
                x.stepDown();
                x.pass(1);
            }
            c.due("guardian", x.count(9), place == 0 ? 1 : 0);
            c.due("appeal(" + place + ")", x.appeal(place), 1);
            c.due("turn", x.count(10), place);
            c.due("pass(1)", x.pass(1), 1);
            c.due("guardian", x.count(9), place);
        }
    }

    // "A person who is neither the guardian nor barred can appeal, if there is a guardian"

    private static void appealOfANewPerson(Checks c) {
        PurrProbates x = withGuardianAt(0, 7);
        x.set(COST, 0);
        x.move(0, 6);
        x.add(9, 0);
        c.due("appeal(7), the same score", x.appeal(7), 0);
        c.due("guardian", x.count(9), 6);
        c.due("appeal(0), the lowest", x.appeal(0), 0);
        c.due("scratches", x.person(7, 2) * 10 + x.person(0, 2), 11);
    }

    /** Only give is refused beyond 99999. */
    private static void appealAboveTheMostCoins(Checks c) {
        PurrProbates x = withAPurseOfThirty();
        for (int i = 0; i < 9; i++) {
            x.give(9999);
        }
        c.due("give(9038)", x.give(9038), 99999);
        c.due("appeal(0)", x.appeal(0), 0);
        c.due("estate", x.count(11), 100009);
        c.due("give(1)", x.give(1), -4);
        c.due("purse", x.person(0, 3), 20);
    }

    /** A guardian who is barred by a setting stays guardian, and is deposed as any other. */
    private static void appealAgainstABarredGuardian(Checks c) {
        PurrProbates x = Checks.withPeople("3f0");
        x.pass(1);
        x.set(PURR, 53);
        c.due("pass(1), 48 and 15 less 10", x.pass(1), 1);
        x.add(1, 0);
        x.add(2, 0);
        x.set(COST, 0);
        x.set(BARS, 1);
        c.due("the guardian is barred", x.person(0, 4), 1);
        c.due("pass(9), the guardian stays", x.pass(9), 0);
        c.due("guardian", x.count(9), 0);
        c.due("could the guardian appeal", x.person(0, 8), 0);
        c.due("appeal(1), 5 against 5", x.appeal(1), 0);
        c.due("appeal(2), 10 against 5", x.appeal(2), 1);
        c.due("guardian", x.count(9), -6);
        c.due("turn", x.count(10), 2);
        c.due("barred", x.count(12), 2);
    }
}
