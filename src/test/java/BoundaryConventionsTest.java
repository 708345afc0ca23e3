/** The boundary cases of the document's conventions; each test stands below the sentence that it is for. */
public final class BoundaryConventionsTest {
    private static final int ALLOW = PurrProbates.ALLOW, COST = PurrProbates.COST, MONTH = PurrProbates.MONTH,
            PURR = PurrProbates.PURR;
    private static final int LEAST = Integer.MIN_VALUE, GREATEST = Integer.MAX_VALUE;

    public static void main(String[] args) {
        Checks c = new Checks("BoundaryConventionsTest");
        firstErrorOfPeople(c);
        firstErrorOfCoinsAndDays(c);
        firstErrorOfTexts(c);
        refusedWithNobody(c);
        refusedWithAGuardianAndAllFull(c);
        refusedAtTheLimits(c);
        noneIsNoError(c);
        noneIsNoPlace(c);
        roundedDown(c);
        allCallsOfAnObject(c);
        c.finish();
    }

    // "it names its errors in the order in which they are checked, and the first one that applies is returned"

    private static void firstErrorOfPeople(Checks c) {
        PurrProbates x = Checks.withPeople("1f1,2f2,3f3,4f4,5f5,6f6,7f7,8f8");
        c.due("add(0, 1), bad and too many", x.add(0, 1), -2);
        c.due("add(1, 101), bad and too many", x.add(1, 101), -2);
        c.due("add(9, 100), too many", x.add(9, 100), -4);
        c.due("appeal(8), nobody and no guardian", x.appeal(8), -1);
        c.due("appeal(7), no guardian", x.appeal(7), -5);
        c.due("person(8, 9), nobody and nothing", x.person(8, 9), -1);
        c.due("person(7, 9), nothing", x.person(7, 9), -2);
        c.due("bestPlace(8, 2), nobody and nothing", x.bestPlace(8, 2), -1);
        c.due("bestPlace(7, 2), nothing", x.bestPlace(7, 2), -2);
        c.due("restore(2), no slot and nothing saved", x.restore(2), -2);
        c.due("restore(1), nothing saved", x.restore(1), -5);
    }

    private static void firstErrorOfCoinsAndDays(Checks c) {
        PurrProbates x = atTheLimits();
        c.due("give(10000), bad and too many", x.give(10000), -2);
        c.due("give(0)", x.give(0), -2);
        c.due("give(1), too many", x.give(1), -4);
        c.due("pass(100), bad and too many", x.pass(100), -2);
        c.due("pass(0)", x.pass(0), -2);
        c.due("pass(1), too many", x.pass(1), -4);
    }

    private static void firstErrorOfTexts(Checks c) {
        PurrProbates x = Checks.withPeople("1f1,2f2,3f3,4f4,5f5,6f6,7f7,8f8");
        Checks.putAll(x, "9f9");
        c.due("read(), too many", x.read(), -4);
        x.put(',');
        c.due("read(), a fault and too many", x.read(), -3);
        Checks.putAll(x, "12345678123456781234567812345678123456781234567812345678");
        c.due("length", x.count(19), 60);
        c.due("put(0), no character to a full pad", x.put(0), -2);
        c.due("put(127), a wrong one to a full pad", x.put(127), -2);
        c.due("put(33), too many", x.put(33), -4);
    }

    // "A call that returns an error changes nothing."

    /** A short text of what there is, so that many of them fit into an object's 512 calls. */
    private static String glance(PurrProbates x) {
        StringBuilder all = new StringBuilder();
        for (int what = 6; what <= 20; what++) {
            all.append(x.count(what)).append(' ');
        }
        int people = x.count(7);
        for (int person = 0; person < people; person++) {
            all.append(x.person(person, 0)).append(x.person(person, 2)).append(x.person(person, 3)).append(' ');
        }
        return all.append(x.ifPassed(60, 3)).append(' ').append(x.fault()).toString();
    }

    /** The present, all that can be undone, and what the slots have. */
    private static String wholeStory(PurrProbates x) {
        StringBuilder all = new StringBuilder(glance(x));
        for (int undone = 0; undone < 7; undone++) {
            int left = x.undo();
            all.append("\n  undo ").append(left).append(": ").append(left < 0 ? "" : glance(x));
        }
        all.append("\n  slot 0 ").append(x.restore(0)).append(": ").append(glance(x));
        all.append("\n  slot 1 ").append(x.restore(1)).append(": ").append(glance(x));
        return all.toString();
    }

    private static void refusedWithNobody(Checks c) {
        PurrProbates x = new PurrProbates();
        c.due("add(10, 0)", x.add(10, 0), -2);
        c.due("read()", x.read(), -3);
        c.due("move(0, 0)", x.move(0, 0), -1);
        c.due("stepDown()", x.stepDown(), -5);
        c.due("appeal(0)", x.appeal(0), -1);
        c.due("person(0, 0)", x.person(0, 0), -1);
        c.due("bestPlace(0, 0)", x.bestPlace(0, 0), -1);
        c.due("undo()", x.undo(), -5);
        c.due("restore(0)", x.restore(0), -5);
        c.due("restore(1)", x.restore(1), -5);
        c.due("whole story", wholeStory(x), wholeStory(new PurrProbates()));
    }

    /** 8 people, a guardian, a full pad with a fault, a full history, and two slots that differ. */
    private static PurrProbates fullWithGuardian() {
        PurrProbates x = Checks.withPeople("1f0,1f0,4f50,9f0,1f1,1f1,1f1");
        x.set(MONTH, 5);
        x.save(0);
        x.pass(5);
        x.add(8, 8);
        x.save(1);
        x.move(7, 0);
        x.give(7);
        x.set(COST, 1);
        x.set(PurrProbates.BARS, 1);
        Checks.putAll(x, "1f1,1f1,1f1,1f1,1f1,1f1,1f1,1f1,1f1,1f1,1f1,1f1,1f1,1f1,1f1,");
        return x;
    }

    private static void refusedWithAGuardianAndAllFull(Checks c) {
        PurrProbates x = fullWithGuardian();
        c.due("guardian", x.count(9), 4);
        c.due("length", x.count(19), 60);
        c.due("changes", x.count(20), 6);
        refusedValues(c, x);
        c.due("add(1, 1)", x.add(1, 1), -4);
        c.due("read()", x.read(), -3);
        c.due("appeal(4), the guardian", x.appeal(4), -5);
        c.due("appeal(1), barred", x.appeal(1), -5);
        c.due("appeal(0), a poor one", x.appeal(0), -5);
        c.due("put(33)", x.put(33), -4);
        c.due("whole story", wholeStory(x), wholeStory(fullWithGuardian()));
    }

    private static void refusedValues(Checks c, PurrProbates x) {
        for (int setting = 0; setting < 6; setting++) {
            c.due("set(" + setting + ", -1)", x.set(setting, -1), -2);
            c.due("set(" + setting + ", 201)", x.set(setting, 201), -2);
        }
        c.due("set(6, 1)", x.set(6, 1), -2);
        c.due("set(-1, 1)", x.set(-1, 1), -2);
        c.due("add(0, 0)", x.add(0, 0), -2);
        c.due("add(1, -1)", x.add(1, -1), -2);
        c.due("move(8, 0)", x.move(8, 0), -1);
        c.due("move(0, 8)", x.move(0, 8), -1);
        c.due("move(-1, 3)", x.move(-1, 3), -1);
        c.due("move(3, -1)", x.move(3, -1), -1);
        c.due("appeal(8)", x.appeal(8), -1);
        c.due("appeal(-1)", x.appeal(-1), -1);
        c.due("give(0)", x.give(0), -2);
        c.due("give(10000)", x.give(10000), -2);
        c.due("pass(0)", x.pass(0), -2);
        c.due("pass(100)", x.pass(100), -2);
        c.due("next(2)", x.next(2), -2);
        c.due("ifPassed(501, 0)", x.ifPassed(501, 0), -2);
        c.due("bestPlace(0, 2)", x.bestPlace(0, 2), -2);
        c.due("put(0)", x.put(0), -2);
        c.due("put(0x3100)", x.put(0x3100), -2);
        c.due("save(2)", x.save(2), -2);
        c.due("save(-1)", x.save(-1), -2);
        c.due("restore(2)", x.restore(2), -2);
        c.due("restore(-1)", x.restore(-1), -2);
    }

    /** The day 9999, an estate of 99999, 6 barred people of 6, no guardian, and a text of 3 people more. */
    private static PurrProbates atTheLimits() {
        PurrProbates x = Checks.withPeople("1f1,2f2,3f3,4f4,5f5,6f6");
        x.set(PURR, 200);
        x.set(ALLOW, 1);
        for (int i = 0; i < 101; i++) {
            x.pass(99);
        }
        for (int i = 0; i < 9; i++) {
            x.give(9999);
        }
        x.give(9008);
        x.save(0);
        Checks.putAll(x, "7f7,8f8,9f9");
        return x;
    }

    private static void refusedAtTheLimits(Checks c) {
        PurrProbates x = atTheLimits();
        c.due("days", x.count(6), 9999);
        c.due("estate", x.count(11), 99999);
        c.due("barred", x.count(12), 6);
        c.due("pass(1)", x.pass(1), -4);
        c.due("give(1)", x.give(1), -4);
        c.due("read()", x.read(), -4);
        c.due("stepDown()", x.stepDown(), -5);
        c.due("appeal(0)", x.appeal(0), -5);
        c.due("restore(1)", x.restore(1), -5);
        c.due("whole story", wholeStory(x), wholeStory(atTheLimits()));
    }

    // "NONE (-6) is not an error; it is returned only if no error applies."

    private static void noneIsNoError(Checks c) {
        PurrProbates x = new PurrProbates();
        c.due("next(-1)", x.next(-1), -2);
        c.due("next(0)", x.next(0), -6);
        c.due("next(1)", x.next(1), -6);
        c.due("next(2)", x.next(2), -2);
        c.due("ifPassed(0, 4)", x.ifPassed(0, 4), -2);
        c.due("ifPassed(1, 4)", x.ifPassed(1, 4), -6);
        c.due("ifPassed(500, 4)", x.ifPassed(500, 4), -6);
        c.due("ifPassed(501, 4)", x.ifPassed(501, 4), -2);
        c.due("ifPassed(1, 5)", x.ifPassed(1, 5), -2);
        c.due("count(9)", x.count(9), -6);
        c.due("count(-6)", x.count(-6), -2);
        x.add(9, 0);
        x.pass(1);
        c.due("count(9)", x.count(9), 0);
        c.due("count(10)", x.count(10), -6);
        x.put('5');
        c.due("fault()", x.fault(), 1);
        Checks.putAll(x, "f5");
        c.due("fault()", x.fault(), -6);
    }

    /** An answer that is NONE, given back as a number of somebody, names nobody. */
    private static void noneIsNoPlace(Checks c) {
        PurrProbates x = Checks.withPeople("9f0,1f0");
        c.due("guardian", x.count(9), -6);
        c.due("appeal(-6)", x.appeal(-6), -1);
        c.due("move(-6, 0)", x.move(-6, 0), -1);
        c.due("move(0, -6)", x.move(0, -6), -1);
        c.due("person(-6, 0)", x.person(-6, 0), -1);
        c.due("bestPlace(-6, 0)", x.bestPlace(-6, 0), -1);
        c.due("appeal(least)", x.appeal(LEAST), -1);
        c.due("bestPlace(greatest, 0)", x.bestPlace(GREATEST, 0), -1);
        c.due("bestPlace(0, least)", x.bestPlace(0, LEAST), -2);
        c.due("next(greatest)", x.next(GREATEST), -2);
        c.due("ifPassed(least, 0)", x.ifPassed(LEAST, 0), -2);
    }

    // "Divisions are rounded down."

    private static void roundedDown(Checks c) {
        PurrProbates x = Checks.withPeople("9f99");
        x.set(MONTH, 5);
        x.set(ALLOW, 1);
        x.pass(5);
        c.due("fed, 99 hundredths of 1", x.count(16), 0);
        c.due("purse", x.person(0, 3), 1);
        c.due("mood", x.count(8), 50);
        x.set(ALLOW, 2);
        x.pass(5);
        c.due("fed, 198 hundredths", x.count(16), 1);
        c.due("mood, half of 1 more", x.count(8), 50);
        x.set(ALLOW, 4);
        x.pass(5);
        c.due("fed, 396 hundredths", x.count(16), 4);
        c.due("mood, half of 3 more, then 1 nearer to 50", x.count(8), 50);
        x.set(ALLOW, 5);
        x.pass(5);
        c.due("fed, 495 hundredths", x.count(16), 8);
        c.due("mood, half of 4 more, then 1 nearer to 50", x.count(8), 51);
        PurrProbates court = new PurrProbates();
        court.set(ALLOW, 199);
        court.pass(28);
        c.due("fed by the court, half of 199", court.count(16), 99);
        c.due("estate", court.count(11), 901);
    }

    // "An object is used for at most 512 calls after it has been made"

    private static void allCallsOfAnObject(Checks c) {
        PurrProbates x = new PurrProbates();
        for (int i = 0; i < 8; i++) {
            c.due("add(9, 100)", x.add(9, 100), i);
        }
        for (int i = 1; i <= 503; i++) {
            c.due("pass(1)", x.pass(1), i == 1 ? 1 : 0);
        }
        c.due("the 512th call, days as guardian", x.person(0, 7), 503);
    }
}
