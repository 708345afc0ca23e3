/** The boundary cases of undo and of saved states, promises 19 to 21; each test stands below its sentence. */
public final class BoundaryHistoryTest {
    private static final int LEAST = Integer.MIN_VALUE, GREATEST = Integer.MAX_VALUE;

    public static void main(String[] args) {
        Checks c = new Checks("BoundaryHistoryTest");
        undoOfNothing(c);
        undoToTheFirst(c);
        upToSix(c);
        theOldestIsDropped(c);
        droppedManyTimes(c);
        undoIsNotRecorded(c);
        recordedWithoutDifference(c);
        errorsAreNotRecorded(c);
        neitherPadNorSlots(c);
        undoOfEveryChange(c);
        saveSlots(c);
        saveOverwrites(c);
        saveIsNoChange(c);
        restoreSlots(c);
        restoreOfNothing(c);
        restoreKeepsTheSlot(c);
        restoreOfFewerAndMorePeople(c);
        restoreAtTheFullHistory(c);
        restoreNeitherPadNorHistory(c);
        c.finish();
    }

    // "NOT_POSSIBLE if there is none"

    private static void undoOfNothing(Checks c) {
        PurrProbates x = new PurrProbates();
        c.refused(x, Checks.answers(x), "undo()", x.undo(), -5);
        c.refused(x, Checks.answers(x), "undo() again", x.undo(), -5);
        x.give(1);
        c.due("undo()", x.undo(), 0);
        c.refused(x, Checks.answers(x), "undo() once more", x.undo(), -5);
    }

    // "Returns how many changes can be undone then"

    private static void undoToTheFirst(Checks c) {
        PurrProbates x = new PurrProbates();
        String before = Checks.answers(x);
        x.add(9, 50);
        x.set(PurrProbates.MONTH, 5);
        x.pass(7);
        for (int left = 2; left >= 0; left--) {
            c.due("undo()", x.undo(), left);
            c.due("count(20)", x.count(20), left);
        }
        c.due("all answers", Checks.answers(x), before);
    }

    // "A history of at most 6 states is kept"

    private static void upToSix(Checks c) {
        PurrProbates x = new PurrProbates();
        for (int i = 1; i <= 9; i++) {
            x.give(1);
            c.due("count(20) behind " + i, x.count(20), Math.min(i, 6));
        }
        for (int left = 5; left >= 0; left--) {
            c.due("undo()", x.undo(), left);
            c.due("estate", x.count(11), 1003 + left);
        }
        c.due("undo()", x.undo(), -5);
        c.due("estate", x.count(11), 1003);
    }

    // "when one more is recorded, the oldest one is dropped"

    private static void theOldestIsDropped(Checks c) {
        for (int changes = 5; changes <= 8; changes++) {
            PurrProbates x = new PurrProbates();
            for (int i = 0; i < changes; i++) {
                x.give(1 << i);
            }
            int undone = 0;
            while (undone < 10 && x.undo() >= 0) {
                undone++;
            }
            c.due("undone of " + changes, undone, Math.min(changes, 6));
            c.due("estate", x.count(11), 1000 + (1 << Math.max(0, changes - 6)) - 1);
        }
    }

    private static void droppedManyTimes(Checks c) {
        PurrProbates x = new PurrProbates();
        for (int i = 1; i <= 100; i++) {
            x.give(i);
            if (i % 3 == 0) {
                x.undo();
                x.give(1000);
                x.undo();
                x.give(i);
            }
        }
        c.due("estate", x.count(11), 1000 + 5050);
        int given = 5050;
        for (int left = 5; left >= 0; left--) {
            c.due("undo()", x.undo(), left);
            given -= 95 + left;
            c.due("given", x.count(18), given);
        }
        c.due("undo()", x.undo(), -5);
    }

    // "Undoes the latest change": what is undone is gone, and undo is no change

    private static void undoIsNotRecorded(Checks c) {
        PurrProbates x = new PurrProbates();
        x.give(1);
        x.give(2);
        c.due("undo()", x.undo(), 1);
        c.due("undo()", x.undo(), 0);
        c.due("undo()", x.undo(), -5);
        c.due("estate", x.count(11), 1000);
        x.give(4);
        c.due("count(20)", x.count(20), 1);
        c.due("undo()", x.undo(), 0);
        c.due("estate", x.count(11), 1000);
    }

    // "records the state before it (also if nothing is different then)"

    private static void recordedWithoutDifference(Checks c) {
        PurrProbates x = Checks.withPeople("9f0");
        x.save(0);
        String before = Checks.answers(x);
        c.due("set(0, 70)", x.set(0, 70), 70);
        c.due("count(20)", x.count(20), 2);
        c.due("move(0, 0)", x.move(0, 0), 0);
        c.due("count(20)", x.count(20), 3);
        c.due("restore(0)", x.restore(0), 0);
        c.due("count(20)", x.count(20), 4);
        c.due("undo()", x.undo(), 3);
        c.due("undo()", x.undo(), 2);
        c.due("undo()", x.undo(), 1);
        c.due("all answers", Checks.answers(x), before);
    }

    // "each method that is a change, and returns no error"

    private static void errorsAreNotRecorded(Checks c) {
        PurrProbates x = Checks.withPeople("9f0,9f0,9f0,9f0,9f0,9f0,9f0");
        x.give(1);
        x.set(0, 201);
        x.set(9, 1);
        x.add(0, 0);
        x.read();
        x.move(0, 7);
        x.stepDown();
        x.appeal(0);
        x.appeal(7);
        x.give(10000);
        x.pass(100);
        x.restore(0);
        x.restore(2);
        x.save(2);
        x.put(0);
        Checks.putAll(x, "1f1,1f1");
        x.read();
        c.due("count(20)", x.count(20), 2);
        c.due("undo()", x.undo(), 1);
        c.due("estate", x.count(11), 1000);
        c.due("people", x.count(7), 7);
        c.due("undo()", x.undo(), 0);
        c.due("people", x.count(7), 0);
    }

    // "everything except the pad, the slots and the history is as it was before it"

    private static void neitherPadNorSlots(Checks c) {
        PurrProbates x = new PurrProbates();
        Checks.putAll(x, "9f9");
        c.due("read()", x.read(), 1);
        c.due("undo() of a read", x.undo(), 0);
        c.due("people", x.count(7), 0);
        c.due("the pad stays empty", x.count(19), 0);
        x.give(1);
        Checks.putAll(x, "5f5");
        c.due("save(1)", x.save(1), 0);
        c.due("undo()", x.undo(), 0);
        c.due("the pad stays", x.count(19), 3);
        c.due("fault()", x.fault(), -6);
        x.wipe();
        x.give(2);
        c.due("undo()", x.undo(), 0);
        c.due("the pad stays wiped", x.count(19), 0);
        c.due("the slot stays", x.restore(1), 0);
        c.due("estate", x.count(11), 1001);
    }

    /** The first has a purse, the second is the guardian until the month ends, and a text waits to be read. */
    private static PurrProbates scene() {
        PurrProbates x = Checks.withPeople("4f0,9f50,1f0");
        x.set(PurrProbates.MONTH, 5);
        x.pass(5);
        x.stepDown();
        x.pass(1);
        x.set(PurrProbates.SOUR, 60);
        Checks.putAll(x, "7f7");
        x.save(0);
        x.give(3);
        return x;
    }

    private static int change(PurrProbates x, int which) {
        switch (which) {
            case 0: return x.set(PurrProbates.SOUR, 0);
            case 1: return x.add(1, 1);
            case 2: return x.read();
            case 3: return x.move(1, 2);
            case 4: return x.stepDown();
            case 5: return x.appeal(0);
            case 6: return x.give(9999);
            case 7: return x.pass(4);
            default: return x.restore(0);
        }
    }

    private static String state(PurrProbates x) {
        StringBuilder all = new StringBuilder();
        for (int what = 0; what <= 18; what++) {
            all.append(x.count(what)).append(' ');
        }
        int people = x.count(7);
        for (int person = 0; person < people; person++) {
            for (int what = 0; what <= 8; what++) {
                all.append(x.person(person, what)).append(' ');
            }
        }
        return all.append(x.ifPassed(40, 3)).toString();
    }

    private static void undoOfEveryChange(Checks c) {
        int[] answers = {60, 3, 4, 2, 1, 0, 10972, 0, 6};
        for (int which = 0; which < 9; which++) {
            PurrProbates x = scene();
            String before = state(x);
            c.due("change " + which, change(x, which), answers[which]);
            c.due("change " + which + " changes something", state(x).equals(before) ? 1 : 0, 0);
            c.due("undo() of the change " + which, x.undo(), 5);
            c.due("state", state(x), before);
        }
    }

    // "BAD_VALUE if there is no such slot"; "Returns the days"

    private static void saveSlots(Checks c) {
        PurrProbates x = new PurrProbates();
        c.due("save(-1)", x.save(-1), -2);
        c.due("save(2)", x.save(2), -2);
        c.due("save(least)", x.save(LEAST), -2);
        c.due("save(greatest)", x.save(GREATEST), -2);
        c.due("restore(0), nothing was saved", x.restore(0), -5);
        c.due("restore(1), nothing was saved", x.restore(1), -5);
        c.due("save(0)", x.save(0), 0);
        x.pass(99);
        c.due("save(1)", x.save(1), 99);
        c.due("restore(0)", x.restore(0), 0);
        c.due("restore(1)", x.restore(1), 99);
    }

    // "and overwrites what was saved there"

    private static void saveOverwrites(Checks c) {
        PurrProbates x = Checks.withPeople("9f0,8f0");
        x.pass(3);
        c.due("save(0)", x.save(0), 3);
        c.due("save(1)", x.save(1), 3);
        x.undo();
        x.undo();
        c.due("save(0) of nobody", x.save(0), 0);
        c.due("restore(1)", x.restore(1), 3);
        c.due("people", x.count(7), 2);
        c.due("restore(0)", x.restore(0), 0);
        c.due("people", x.count(7), 0);
        c.due("add(7, 7)", x.add(7, 7), 0);
        c.due("scratches, purrs and days of a new one", x.person(0, 2) + x.person(0, 6) + x.person(0, 7), 0);
    }

    private static void saveIsNoChange(Checks c) {
        PurrProbates x = new PurrProbates();
        x.save(0);
        x.save(1);
        c.due("count(20)", x.count(20), 0);
        c.due("undo()", x.undo(), -5);
    }

    // "BAD_VALUE if there is no such slot; NOT_POSSIBLE if nothing was saved in it"

    private static void restoreSlots(Checks c) {
        PurrProbates x = new PurrProbates();
        x.pass(1);
        x.save(0);
        x.save(1);
        int[] wrong = {-1, 2, -6, LEAST, GREATEST};
        for (int slot : wrong) {
            c.refused(x, Checks.answers(x), "restore(" + slot + ")", x.restore(slot), -2);
        }
    }

    private static void restoreOfNothing(Checks c) {
        for (int slot = 0; slot < 2; slot++) {
            PurrProbates x = new PurrProbates();
            x.pass(2);
            c.due("save of the other", x.save(1 - slot), 2);
            c.refused(x, Checks.answers(x), "restore(" + slot + ")", x.restore(slot), -5);
            c.due("restore of the other", x.restore(1 - slot), 2);
        }
    }

    // "Restores what was saved last in a slot, which keeps it."

    private static void restoreKeepsTheSlot(Checks c) {
        PurrProbates x = Checks.withPeople("1f0,9f50");
        x.pass(2);
        x.save(0);
        String saved = state(x);
        for (int i = 0; i < 3; i++) {
            x.move(0, 1);
            x.stepDown();
            x.set(PurrProbates.ALLOW, 0);
            x.pass(99);
            x.add(1, 1);
            c.due("restore(0)", x.restore(0), 2);
            c.due("state", state(x), saved);
        }
        x.undo();
        c.due("restore(0) behind an undo", x.restore(0), 2);
        c.due("state", state(x), saved);
    }

    private static void restoreOfFewerAndMorePeople(Checks c) {
        PurrProbates x = new PurrProbates();
        x.save(0);
        Checks.putAll(x, "9f1,8f2,7f3,6f4,5f5,4f6,3f7,2f8");
        x.read();
        x.pass(1);
        x.move(0, 7);
        x.save(1);
        c.due("guardian", x.count(9), 7);
        c.due("restore(0)", x.restore(0), 0);
        c.due("guardian of nobody", x.count(9), -6);
        c.due("turn of nobody", x.count(10), 0);
        c.due("person(0, 0)", x.person(0, 0), -1);
        c.due("pass(1)", x.pass(1), 0);
        c.due("restore(1)", x.restore(1), 1);
        c.due("guardian", x.count(9), 7);
        c.due("warmth of the last", x.person(7, 0), 9);
        c.due("days as guardian", x.person(7, 7), 1);
        c.due("add(1, 1)", x.add(1, 1), -4);
    }

    // "This is a change."

    private static void restoreAtTheFullHistory(Checks c) {
        PurrProbates x = new PurrProbates();
        x.save(0);
        for (int i = 1; i <= 6; i++) {
            x.give(i);
        }
        c.due("restore(0)", x.restore(0), 0);
        c.due("estate", x.count(11), 1000);
        c.due("count(20)", x.count(20), 6);
        c.due("undo() of the restoring", x.undo(), 5);
        c.due("estate", x.count(11), 1021);
        int[] estates = {1015, 1010, 1006, 1003, 1001};
        for (int i = 0; i < 5; i++) {
            c.due("undo()", x.undo(), 4 - i);
            c.due("estate", x.count(11), estates[i]);
        }
        c.due("undo(), the oldest was dropped", x.undo(), -5);
    }

    // "Saves everything except the pad, the history and the slots"

    private static void restoreNeitherPadNorHistory(Checks c) {
        PurrProbates x = new PurrProbates();
        x.give(1);
        Checks.putAll(x, "5f5");
        x.save(0);
        x.wipe();
        x.undo();
        c.due("restore(0)", x.restore(0), 0);
        c.due("the pad is as it was", x.count(19), 0);
        c.due("count(20)", x.count(20), 1);
        c.due("estate", x.count(11), 1001);
        c.due("undo()", x.undo(), 0);
        c.due("estate", x.count(11), 1000);
        Checks.putAll(x, "7f7");
        x.restore(0);
        c.due("the pad is as it was", x.count(19), 3);
        c.due("read()", x.read(), 1);
        c.due("warmth", x.person(0, 0), 7);
    }
}
