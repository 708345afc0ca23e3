/** Promises 3 to 5: add, read and move. */
public final class PeopleTest {
    public static void main(String[] args) {
        Checks c = new Checks("PeopleTest");
        add(c);
        addWrong(c);
        addAfterRestore(c);
        read(c);
        readWrong(c);
        readTooMany(c);
        moveShifts(c);
        moveInAFullList(c);
        moveKeepsTurn(c);
        moveKeepsGuardian(c);
        moveWrong(c);
        c.finish();
    }

    private static void add(Checks c) {
        PurrProbates x = new PurrProbates();
        c.due("add(1, 0)", x.add(1, 0), 0);
        c.due("add(9, 100)", x.add(9, 100), 1);
        for (int i = 2; i < 8; i++) {
            c.due("add(" + i + ", " + i + ")", x.add(i, i), i);
        }
        c.due("person(0, 0)", x.person(0, 0), 1);
        c.due("person(0, 1)", x.person(0, 1), 0);
        c.due("person(1, 0)", x.person(1, 0), 9);
        c.due("person(1, 1)", x.person(1, 1), 100);
        c.due("person(7, 1)", x.person(7, 1), 7);
        c.due("changes", x.count(20), 6);
        String before = Checks.answers(x);
        c.refused(x, before, "add(5, 5)", x.add(5, 5), -4);
        c.refused(x, before, "add(0, 5) to 8", x.add(0, 5), -2);
        c.refused(x, before, "add(5, 101) to 8", x.add(5, 101), -2);
    }

    private static void addWrong(Checks c) {
        PurrProbates x = Checks.withPeople("5f50");
        String before = Checks.answers(x);
        c.refused(x, before, "add(0, 5)", x.add(0, 5), -2);
        c.refused(x, before, "add(10, 5)", x.add(10, 5), -2);
        c.refused(x, before, "add(5, -1)", x.add(5, -1), -2);
        c.refused(x, before, "add(5, 101)", x.add(5, 101), -2);
    }

    private static void addAfterRestore(Checks c) {
        PurrProbates x = new PurrProbates();
        x.save(0);
        x.add(1, 1);
        x.pass(1);
        x.set(PurrProbates.PURR, 1);
        x.pass(40);
        c.due("the first has a past", Checks.answers(x).contains("1 1 1 30 0 1045 1 40 0") ? 1 : 0, 1);
        x.restore(0);
        c.due("people", x.count(7), 0);
        c.due("add(2, 2)", x.add(2, 2), 0);
        c.due("the new one has none", Checks.answers(x).contains("| 2 2 0 0 0 1060 0 0 0 |") ? 1 : 0, 1);
    }

    private static void read(Checks c) {
        PurrProbates x = new PurrProbates();
        x.add(4, 44);
        Checks.putAll(x, "1f0,9f100,5f10,2f99,3f7");
        c.due("read()", x.read(), 6);
        c.due("count(19)", x.count(19), 0);
        c.due("count(20)", x.count(20), 2);
        int[] warmths = {4, 1, 9, 5, 2, 3};
        int[] shares = {44, 0, 100, 10, 99, 7};
        for (int i = 0; i < 6; i++) {
            c.due("person(" + i + ", 0)", x.person(i, 0), warmths[i]);
            c.due("person(" + i + ", 1)", x.person(i, 1), shares[i]);
        }
        c.due("undo()", x.undo(), 1);
        c.due("people", x.count(7), 1);
        c.due("the pad is not undone", x.count(19), 0);
    }

    private static void readWrong(Checks c) {
        String[] faulty = {"", "5", "5f", "5f5,", "0f5", "5f05", "5f101", "5g5", "5f5;5f5", "5f5,,5f5", ",5f5"};
        for (String text : faulty) {
            PurrProbates x = new PurrProbates();
            x.add(4, 44);
            Checks.putAll(x, text);
            c.refused(x, Checks.answers(x), "read() of " + text, x.read(), -3);
        }
    }

    private static void readTooMany(Checks c) {
        PurrProbates x = new PurrProbates();
        Checks.putAll(x, "1f1,2f2,3f3,4f4,5f5,6f6,7f7,8f8,9f9");
        c.refused(x, Checks.answers(x), "read() of 9", x.read(), -4);
        x.wipe();
        Checks.putAll(x, "1f1,2f2,3f3,4f4,5f5,6f6,7f7");
        c.due("read() of 7", x.read(), 7);
        Checks.putAll(x, "1f1,2f2");
        c.refused(x, Checks.answers(x), "read() of 2", x.read(), -4);
        Checks.putAll(x, ",");
        c.refused(x, Checks.answers(x), "a fault is told ahead of too many", x.read(), -3);
        x.wipe();
        Checks.putAll(x, "8f8");
        c.due("read() of 1", x.read(), 8);
    }

    private static void moveShifts(Checks c) {
        PurrProbates x = Checks.withPeople("1f1,2f2,3f3,4f4,5f5");
        c.due("move(1, 3)", x.move(1, 3), 3);
        order(c, x, "13425");
        c.due("move(3, 1)", x.move(3, 1), 3);
        order(c, x, "12345");
        c.due("move(0, 4)", x.move(0, 4), 5);
        order(c, x, "23451");
        c.due("move(4, 3)", x.move(4, 3), 2);
        order(c, x, "23415");
        c.due("count(20)", x.count(20), 5);
        c.due("move(2, 2)", x.move(2, 2), 0);
        order(c, x, "23415");
        c.due("count(20)", x.count(20), 6);
        c.due("person(3, 1)", x.person(3, 1), 1);
    }

    private static void moveInAFullList(Checks c) {
        PurrProbates x = Checks.withPeople("1f1,2f2,3f3,4f4,5f5,6f6,7f7,8f8");
        c.due("move(0, 7)", x.move(0, 7), 8);
        order(c, x, "23456781");
        c.due("move(7, 0)", x.move(7, 0), 8);
        order(c, x, "12345678");
        c.due("move(6, 7)", x.move(6, 7), 2);
        order(c, x, "12345687");
    }

    private static void order(Checks c, PurrProbates x, String warmths) {
        StringBuilder got = new StringBuilder();
        for (int i = 0; i < x.count(7); i++) {
            got.append(x.person(i, 0));
        }
        c.due("order", got.toString(), warmths);
    }

    private static void moveKeepsTurn(Checks c) {
        // the turn is 2 behind two scratches; PURR 200 lets nobody be the guardian
        int[][] moves = {{2, 0, 0}, {2, 4, 4}, {0, 4, 1}, {0, 2, 1}, {0, 1, 2}, {4, 0, 3}, {4, 2, 3}, {4, 3, 2}, {2, 2, 2}};
        for (int[] m : moves) {
            PurrProbates x = Checks.withPeople("1f1,2f2,3f3,4f4,5f5");
            x.set(PurrProbates.PURR, 200);
            x.pass(2);
            c.due("turn", x.count(10), 2);
            x.move(m[0], m[1]);
            c.due("turn behind move(" + m[0] + ", " + m[1] + ")", x.count(10), m[2]);
            c.due("its person", x.person(x.count(10), 0), 3);
        }
    }

    private static void moveKeepsGuardian(Checks c) {
        int[][] moves = {{2, 0, 0}, {2, 4, 4}, {0, 4, 1}, {0, 2, 1}, {0, 1, 2}, {4, 0, 3}, {4, 2, 3}, {4, 3, 2}, {2, 2, 2}};
        for (int[] m : moves) {
            // scores 55, then 57 (mood 47 behind the scratch, 48 at the day's end), then 46 + 45
            PurrProbates x = Checks.withPeople("1f1,2f2,9f3,4f4,5f5");
            c.due("pass(3)", x.pass(3), 1);
            c.due("guardian", x.count(9), 2);
            x.move(m[0], m[1]);
            c.due("guardian behind move(" + m[0] + ", " + m[1] + ")", x.count(9), m[2]);
            c.due("turn", x.count(10), -6);
            c.due("the guardian's purrs", x.person(x.count(9), 6), 1);
            c.due("the guardian's days", x.person(x.count(9), 7), 1);
        }
    }

    private static void moveWrong(Checks c) {
        PurrProbates x = new PurrProbates();
        c.refused(x, Checks.answers(x), "move(0, 0) of nobody", x.move(0, 0), -1);
        x = Checks.withPeople("1f1,2f2");
        String before = Checks.answers(x);
        c.refused(x, before, "move(2, 0)", x.move(2, 0), -1);
        c.refused(x, before, "move(0, 2)", x.move(0, 2), -1);
        c.refused(x, before, "move(-1, 0)", x.move(-1, 0), -1);
        c.refused(x, before, "move(0, -1)", x.move(0, -1), -1);
        c.refused(x, before, "move(0, -6)", x.move(0, -6), -1);
        c.refused(x, before, "move(7, 7)", x.move(7, 7), -1);
        c.refused(x, before, "move(8, 8)", x.move(8, 8), -1);
        c.refused(x, before, "move(greatest, least)", x.move(Integer.MAX_VALUE, Integer.MIN_VALUE), -1);
    }
}
