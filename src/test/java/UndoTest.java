/** Promises 19 to 21: undo, save and restore. */
public final class UndoTest {
    public static void main(String[] args) {
        Checks c = new Checks("UndoTest");
        everyChange(c);
        deposing(c);
        changesWithoutDifference(c);
        sixStates(c);
        errorsAreNotRecorded(c);
        padAndSlotsAreNotUndone(c);
        saveAndRestore(c);
        twoSlots(c);
        slotKeepsWhatItHas(c);
        wrongSlots(c);
        c.finish();
    }

    /** The answers without those that undo does not bring back: the pad's, and how many changes. */
    private static String state(PurrProbates x) {
        StringBuilder all = new StringBuilder();
        for (int what = 0; what <= 18; what++) {
            all.append(x.count(what)).append(' ');
        }
        for (int person = 0; person < x.count(7); person++) {
            for (int what = 0; what <= 8; what++) {
                all.append(x.person(person, what)).append(' ');
            }
        }
        return all.append(x.next(0)).append(' ').append(x.next(1)).append(' ').append(x.ifPassed(77, 2)).toString();
    }

    private static PurrProbates scene() {
        PurrProbates x = Checks.withPeople("4f50,9f7,1f0");
        x.set(PurrProbates.MONTH, 5);
        x.pass(5);
        x.stepDown();
        x.save(1);
        x.pass(1);
        return x;
    }

    private static void everyChange(Checks c) {
        String[] changes = {"set", "add", "read", "move", "stepDown", "appeal", "give", "pass", "restore"};
        for (String change : changes) {
            PurrProbates x = scene();
            x.put(Checks.number("5f5"));
            String before = state(x);
            c.due("changes", x.count(20), 5);
            int answer = call(x, change);
            c.due(change + " is no error", answer < 0 ? 1 : 0, 0);
            c.due("changes behind " + change, x.count(20), 6);
            c.due(change + " changes something", before.equals(state(x)) ? 1 : 0, 0);
            c.due("undo() of " + change, x.undo(), 5);
            c.due("count(20)", x.count(20), 5);
            c.due("state behind undo of " + change, state(x), before);
        }
    }

    private static void deposing(Checks c) {
        PurrProbates x = Checks.withPeople("1f0,9f0");
        x.set(PurrProbates.PURR, 50);
        x.set(PurrProbates.COST, 0);
        x.pass(1);
        String before = state(x);
        c.due("appeal(1)", x.appeal(1), 1);
        c.due("deposed", x.count(15), 1);
        c.due("undo()", x.undo(), 4);
        c.due("deposed", x.count(15), 0);
        c.due("state behind undo of an appeal that is won", state(x), before);
        x.save(0);
        x.appeal(1);
        x.restore(0);
        c.due("state behind restore", state(x), before);
    }

    private static int call(PurrProbates x, String change) {
        switch (change) {
            case "set": return x.set(PurrProbates.BARS, 9);
            case "add": return x.add(2, 2);
            case "read": return x.read();
            case "move": return x.move(0, 2);
            case "stepDown": return x.stepDown();
            case "appeal": return x.appeal(0);
            case "give": return x.give(77);
            case "pass": return x.pass(30);
            default: return x.restore(1);
        }
    }

    private static void changesWithoutDifference(Checks c) {
        PurrProbates x = Checks.withPeople("4f50");
        c.due("set(0, 70)", x.set(0, 70), 70);
        c.due("count(20)", x.count(20), 2);
        c.due("move(0, 0)", x.move(0, 0), 0);
        c.due("count(20)", x.count(20), 3);
        x.save(0);
        c.due("save is no change", x.count(20), 3);
        c.due("restore(0)", x.restore(0), 0);
        c.due("count(20)", x.count(20), 4);
        x.next(0);
        x.untilEmpty();
        x.ifPassed(9, 0);
        x.bestPlace(0, 0);
        x.put('5');
        x.fault();
        x.wipe();
        c.due("what is no change is not recorded", x.count(20), 4);
        c.due("undo()", x.undo(), 3);
        c.due("undo()", x.undo(), 2);
        c.due("undo()", x.undo(), 1);
        c.due("people", x.count(7), 1);
        c.due("undo()", x.undo(), 0);
        c.due("people", x.count(7), 0);
        c.refused(x, Checks.answers(x), "undo()", x.undo(), -5);
    }

    private static void sixStates(Checks c) {
        PurrProbates x = new PurrProbates();
        for (int i = 1; i <= 20; i++) {
            x.give(i);
            c.due("count(20)", x.count(20), Math.min(i, 6));
        }
        int estate = 1000 + 210;
        for (int i = 20; i >= 15; i--) {
            c.due("undo()", x.undo(), i - 15);
            estate -= i;
            c.due("estate", x.count(11), estate);
        }
        c.refused(x, Checks.answers(x), "undo()", x.undo(), -5);
        x.give(1);
        x.give(2);
        c.due("undo()", x.undo(), 1);
        x.give(3);
        x.give(4);
        c.due("count(20)", x.count(20), 3);
        c.due("undo()", x.undo(), 2);
        c.due("estate", x.count(11), estate + 4);
        c.due("undo()", x.undo(), 1);
        c.due("estate", x.count(11), estate + 1);
    }

    private static void errorsAreNotRecorded(Checks c) {
        PurrProbates x = Checks.withPeople("4f50");
        x.set(0, 0);
        x.add(0, 0);
        x.read();
        x.move(0, 1);
        x.stepDown();
        x.appeal(0);
        x.appeal(1);
        x.give(0);
        x.pass(0);
        x.restore(0);
        x.restore(2);
        c.due("count(20)", x.count(20), 1);
        c.due("undo()", x.undo(), 0);
        c.due("people", x.count(7), 0);
    }

    private static void padAndSlotsAreNotUndone(Checks c) {
        PurrProbates x = new PurrProbates();
        x.give(5);
        Checks.putAll(x, "5f5,4f");
        x.save(0);
        c.due("undo()", x.undo(), 0);
        c.due("the pad stays", x.count(19), 6);
        c.due("fault()", x.fault(), 6);
        c.due("estate", x.count(11), 1000);
        c.due("the slot stays", x.restore(0), 0);
        c.due("estate", x.count(11), 1005);
        c.due("the pad stays", x.count(19), 6);
        c.due("undo() of the restoring", x.undo(), 0);
        c.due("estate", x.count(11), 1000);
        c.due("the slot stays", x.restore(0), 0);
        c.due("estate", x.count(11), 1005);
    }

    private static void saveAndRestore(Checks c) {
        PurrProbates x = scene();
        String saved = state(x);
        c.due("save(0)", x.save(0), 6);
        x.set(PurrProbates.ALLOW, 77);
        x.add(3, 3);
        x.move(0, 2);
        x.pass(60);
        x.give(9);
        Checks.putAll(x, "1f");
        c.due("restore(0)", x.restore(0), 6);
        c.due("state", state(x), saved);
        c.due("the pad stays", x.count(19), 2);
        c.due("the history goes on", x.count(20), 6);
        c.due("undo()", x.undo(), 5);
        c.due("days", x.count(6), 66);
        c.due("allowance", x.count(1), 77);
        c.due("estate is what it was", x.count(18), 9);
    }

    private static void twoSlots(Checks c) {
        PurrProbates x = new PurrProbates();
        x.pass(3);
        c.due("save(0)", x.save(0), 3);
        c.due("restore(1) of nothing", x.restore(1), -5);
        x.pass(4);
        c.due("save(1)", x.save(1), 7);
        x.pass(5);
        c.due("restore(0)", x.restore(0), 3);
        c.due("restore(1)", x.restore(1), 7);
        x.pass(1);
        c.due("save(1) overwrites", x.save(1), 8);
        c.due("restore(0)", x.restore(0), 3);
        c.due("restore(1)", x.restore(1), 8);
        c.due("count(6)", x.count(6), 8);
    }

    private static void slotKeepsWhatItHas(Checks c) {
        PurrProbates x = Checks.withPeople("9f0,1f0");
        x.pass(1);
        x.save(0);
        for (int i = 0; i < 3; i++) {
            c.due("restore(0)", x.restore(0), 1);
            c.due("guardian", x.count(9), 0);
            c.due("first", x.person(0, 0), 9);
            c.due("days as guardian", x.person(0, 7), 1);
            x.move(0, 1);
            x.pass(20);
            x.set(0, 1);
        }
    }

    private static void wrongSlots(Checks c) {
        PurrProbates x = new PurrProbates();
        x.save(0);
        String before = Checks.answers(x);
        int[] wrong = {-1, 2, Integer.MIN_VALUE, Integer.MAX_VALUE};
        for (int slot : wrong) {
            c.refused(x, before, "save(" + slot + ")", x.save(slot), -2);
            c.refused(x, before, "restore(" + slot + ")", x.restore(slot), -2);
        }
        c.refused(x, before, "restore(1)", x.restore(1), -5);
    }
}
