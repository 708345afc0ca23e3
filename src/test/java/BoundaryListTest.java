/** The boundary cases of lists and texts, promises 3 to 5 and 16 to 18; each test stands below its sentence. */
public final class BoundaryListTest {
    private static final String EIGHT = "1f1,2f2,3f3,4f4,5f5,6f6,7f7,8f8";

    public static void main(String[] args) {
        Checks c = new Checks("BoundaryListTest");
        addRanges(c);
        eightPeople(c);
        newPeople(c);
        newPeopleInThePlaceOfOthers(c);
        readEmptyPad(c);
        readUpToEight(c);
        readAboveEight(c);
        readEmptiesThePad(c);
        moveToItsOwnPlace(c);
        moveNoSuch(c);
        moveFromEndToEnd(c);
        moveKeepsTheTurnAtTheEnds(c);
        moveKeepsTheGuardianAtTheEnds(c);
        moveWithNobodyElse(c);
        putOneToEight(c);
        putOrder(c);
        putCodes(c);
        putZeros(c);
        putToSixty(c);
        wipe(c);
        faultTooEarly(c);
        faultFirst(c);
        faultShares(c);
        faultOfAFullPad(c);
        c.finish();
    }

    private static String warmths(PurrProbates x) {
        StringBuilder all = new StringBuilder();
        int people = x.count(7);
        for (int place = 0; place < people; place++) {
            all.append(x.person(place, 0));
        }
        return all.toString();
    }

    // "BAD_VALUE if an argument is out of range": warmth 1 to 9, share 0 to 100

    private static void addRanges(Checks c) {
        PurrProbates x = new PurrProbates();
        int[][] wrong = {{0, 50}, {10, 50}, {-1, 50}, {5, -1}, {5, 101}, {Integer.MIN_VALUE, 50},
            {Integer.MAX_VALUE, 50}, {5, Integer.MIN_VALUE}, {5, Integer.MAX_VALUE}, {0, 101}};
        for (int[] w : wrong) {
            c.refused(x, Checks.answers(x), "add(" + w[0] + ", " + w[1] + ")", x.add(w[0], w[1]), -2);
        }
        c.due("add(1, 0)", x.add(1, 0), 0);
        c.due("add(1, 100)", x.add(1, 100), 1);
        c.due("add(9, 0)", x.add(9, 0), 2);
        c.due("add(9, 100)", x.add(9, 100), 3);
        c.due("warmths", warmths(x), "1199");
        c.due("shares", x.person(0, 1) + x.person(1, 1) * 2 + x.person(2, 1) * 3 + x.person(3, 1) * 4, 600);
    }

    // "There are up to 8 people in a list"; "TOO_MANY if there are 8"

    private static void eightPeople(Checks c) {
        PurrProbates x = new PurrProbates();
        for (int i = 0; i < 8; i++) {
            c.due("add(1, 1) to " + i, x.add(1, 1), i);
        }
        c.refused(x, Checks.answers(x), "add(1, 1) to 8", x.add(1, 1), -4);
        c.due("undo()", x.undo(), 5);
        c.due("add(2, 2) to 7", x.add(2, 2), 7);
        c.due("people", x.count(7), 8);
        c.due("add(3, 3) to 8", x.add(3, 3), -4);
    }

    // "scratches (0 at first), and a purse (0 coins at first)"

    private static void newPeople(Checks c) {
        PurrProbates x = new PurrProbates();
        c.due("estate at first", x.count(11), 1000);
        c.due("mood at first", x.count(8), 50);
        c.due("turn when it begins", x.count(10), 0);
        x.add(4, 0);
        c.due("turn with somebody", x.count(10), 0);
        for (int what = 2; what <= 8; what++) {
            c.due("person(0, " + what + ")", x.person(0, what), what == 5 ? 1070 : 0);
        }
    }

    /** Those who are no more leave nothing to those who come to their places. */
    private static void newPeopleInThePlaceOfOthers(Checks c) {
        PurrProbates x = new PurrProbates();
        x.save(1);
        Checks.putAll(x, "3f0,9f0");
        x.read();
        x.set(PurrProbates.MONTH, 5);
        x.pass(1);
        x.set(PurrProbates.PURR, 53);
        x.pass(4);
        x.move(1, 0);
        c.due("purse of the first", x.person(0, 3), 30);
        c.due("scratches of the second", x.person(1, 2), 1);
        x.save(0);
        c.due("restore(1)", x.restore(1), 0);
        c.due("people", x.count(7), 0);
        Checks.putAll(x, "4f0,4f0");
        c.due("read()", x.read(), 2);
        for (int what = 2; what <= 8; what++) {
            c.due("person(0, " + what + ")", x.person(0, what), what == 5 ? 1070 : 0);
            c.due("person(1, " + what + ")", x.person(1, what), what == 5 ? 1070 : 0);
        }
        c.due("restore(0)", x.restore(0), 5);
        c.due("purse of the first", x.person(0, 3), 30);
        c.due("scratches of the second", x.person(1, 2), 1);
    }

    // "BAD_TEXT if the pad has a fault", also if it is empty

    private static void readEmptyPad(Checks c) {
        PurrProbates x = new PurrProbates();
        c.refused(x, Checks.answers(x), "read() of nothing", x.read(), -3);
        Checks.putAll(x, "5f5");
        x.wipe();
        c.refused(x, Checks.answers(x), "read() of what was wiped", x.read(), -3);
        Checks.putAll(x, "5f");
        c.refused(x, Checks.answers(x), "read() of a text that ends too early", x.read(), -3);
        x.put('0');
        c.due("read() of a whole one", x.read(), 1);
    }

    // "Returns how many people there are then"; "TOO_MANY if there would be more than 8"

    private static void readUpToEight(Checks c) {
        PurrProbates x = new PurrProbates();
        Checks.putAll(x, EIGHT);
        c.due("read() of 8 to 0", x.read(), 8);
        c.due("warmths", warmths(x), "12345678");
        PurrProbates y = Checks.withPeople("9f0,9f1,9f2,9f3,9f4,9f5,9f6");
        Checks.putAll(y, "1f100");
        c.due("read() of 1 to 7", y.read(), 8);
        c.due("share", y.person(7, 1), 100);
        PurrProbates z = Checks.withPeople("9f0");
        Checks.putAll(z, "1f1,2f2,3f3,4f4,5f5,6f6,7f100");
        c.due("read() of 7 to 1", z.read(), 8);
        c.due("warmths", warmths(z), "91234567");
    }

    private static void readAboveEight(Checks c) {
        PurrProbates x = new PurrProbates();
        Checks.putAll(x, EIGHT + ",9f9");
        c.due("fault() of 9", x.fault(), -6);
        c.refused(x, Checks.answers(x), "read() of 9 to 0", x.read(), -4);
        x.wipe();
        Checks.putAll(x, "1f1,1f1,1f1,1f1,1f1,1f1,1f1,1f1,1f1,1f1,1f1,1f1,1f1,1f1,1f1");
        c.refused(x, Checks.answers(x), "read() of 15 to 0", x.read(), -4);
        PurrProbates y = Checks.withPeople("9f0,9f1,9f2,9f3,9f4,9f5,9f6");
        Checks.putAll(y, "1f1,2f2");
        c.refused(y, Checks.answers(y), "read() of 2 to 7", y.read(), -4);
        PurrProbates z = Checks.withPeople(EIGHT);
        Checks.putAll(z, "1f1");
        c.refused(z, Checks.answers(z), "read() of 1 to 8", z.read(), -4);
    }

    // "Adds the people of the pad at the end of the list, and empties the pad."

    private static void readEmptiesThePad(Checks c) {
        PurrProbates x = new PurrProbates();
        Checks.putAll(x, "5f5");
        c.due("read()", x.read(), 1);
        c.due("length", x.count(19), 0);
        c.due("fault()", x.fault(), 0);
        c.refused(x, Checks.answers(x), "read() again", x.read(), -3);
        c.due("put of 1", x.put('6'), 1);
        c.due("wipe()", x.wipe(), 1);
    }

    // "Returns how many people have another place by that"

    private static void moveToItsOwnPlace(Checks c) {
        PurrProbates x = Checks.withPeople(EIGHT);
        for (int place = 0; place < 8; place++) {
            c.due("move(" + place + ", " + place + ")", x.move(place, place), 0);
        }
        c.due("warmths", warmths(x), "12345678");
        c.due("it is a change", x.count(20), 6);
        for (int place = 0; place < 7; place++) {
            c.due("move to the next place", x.move(place, place + 1), 2);
        }
        c.due("warmths", warmths(x), "23456781");
    }

    // "NO_SUCH if there is no such person or place"

    private static void moveNoSuch(Checks c) {
        int[] sizes = {0, 1, 7, 8};
        for (int size : sizes) {
            PurrProbates x = new PurrProbates();
            for (int i = 0; i < size; i++) {
                x.add(i + 1, 0);
            }
            String before = Checks.answers(x);
            c.due("move(size, 0)", x.move(size, 0), -1);
            c.due("move(0, size)", x.move(0, size), -1);
            c.due("move(size, size)", x.move(size, size), -1);
            c.due("move(-1, 0)", x.move(-1, 0), -1);
            c.due("move(0, -1)", x.move(0, -1), -1);
            c.due("move(-1, -1)", x.move(-1, -1), -1);
            c.due("move(least, greatest)", x.move(Integer.MIN_VALUE, Integer.MAX_VALUE), -1);
            c.due("all answers with " + size, Checks.answers(x), before);
        }
    }

    // "those between move by 1"

    private static void moveFromEndToEnd(Checks c) {
        PurrProbates x = Checks.withPeople(EIGHT);
        c.due("move(0, 7)", x.move(0, 7), 8);
        c.due("warmths", warmths(x), "23456781");
        c.due("move(7, 0)", x.move(7, 0), 8);
        c.due("warmths", warmths(x), "12345678");
        c.due("move(7, 1)", x.move(7, 1), 7);
        c.due("warmths", warmths(x), "18234567");
        c.due("move(0, 6)", x.move(0, 6), 7);
        c.due("warmths", warmths(x), "82345617");
    }

    // "The guardian, and the person whose turn it is, stay the same people."

    private static void moveKeepsTheTurnAtTheEnds(Checks c) {
        PurrProbates x = Checks.withPeople(EIGHT);
        x.set(PurrProbates.PURR, 200);
        c.due("turn", x.count(10), 0);
        x.move(7, 0);
        c.due("turn behind move(7, 0)", x.count(10), 1);
        x.move(1, 7);
        c.due("turn behind move(1, 7)", x.count(10), 7);
        x.move(0, 6);
        c.due("turn behind move(0, 6)", x.count(10), 7);
        x.move(0, 7);
        c.due("turn behind move(0, 7)", x.count(10), 6);
        x.move(7, 6);
        c.due("turn behind move(7, 6)", x.count(10), 7);
        x.move(7, 0);
        c.due("turn behind move(7, 0)", x.count(10), 0);
        x.pass(1);
        c.due("scratches of the first, who had the turn all along", x.person(0, 0) * 10 + x.person(0, 2), 11);
    }

    private static void moveKeepsTheGuardianAtTheEnds(Checks c) {
        PurrProbates x = Checks.withPeople("9f1,2f2,3f3,4f4,5f5,6f6,7f7,8f8");
        x.pass(1);
        c.due("guardian", x.count(9), 0);
        x.move(7, 0);
        c.due("guardian behind move(7, 0)", x.count(9), 1);
        x.move(1, 7);
        c.due("guardian behind move(1, 7)", x.count(9), 7);
        x.move(0, 7);
        c.due("guardian behind move(0, 7)", x.count(9), 6);
        x.move(7, 6);
        c.due("guardian behind move(7, 6)", x.count(9), 7);
        c.due("stepDown() from the last place", x.stepDown(), 7);
        c.due("turn behind the last one", x.count(10), 0);
        x.undo();
        x.move(7, 0);
        c.due("stepDown() from the first place", x.stepDown(), 0);
        c.due("turn", x.count(10), 1);
    }

    private static void moveWithNobodyElse(Checks c) {
        PurrProbates x = Checks.withPeople("9f1");
        c.due("move(0, 0)", x.move(0, 0), 0);
        c.due("turn", x.count(10), 0);
        x.pass(1);
        c.due("move(0, 0)", x.move(0, 0), 0);
        c.due("guardian", x.count(9), 0);
        c.due("changes", x.count(20), 4);
    }

    // "characters: 1 to 8 characters"

    private static void putOneToEight(Checks c) {
        PurrProbates x = new PurrProbates();
        int length = 0;
        for (int codes = 1; codes <= 8; codes++) {
            length += codes;
            c.due("put of " + codes, x.put(Checks.number("12345678".substring(0, codes))), length);
        }
        c.due("wipe()", x.wipe(), 36);
        c.refused(x, Checks.answers(x), "put of none", x.put(0), -2);
        c.due("put is no change", x.count(20), 0);
    }

    // "its lowest 8 bits are the last character, the next 8 bits the one before, and so on"

    private static void putOrder(Checks c) {
        PurrProbates x = new PurrProbates();
        c.due("put of 8", x.put(0x3966382c31663130L), 8);
        c.due("put of 1", x.put(0x30), 9);
        c.due("read()", x.read(), 2);
        c.due("first", x.person(0, 0) * 1000 + x.person(0, 1), 9008);
        c.due("second", x.person(1, 0) * 1000 + x.person(1, 1), 1100);
    }

    // "BAD_VALUE if there is no character, a code is not 33 to 126"

    private static void putCodes(Checks c) {
        long[] wrong = {1, 31, 32, 127, 128, 161, 254, 255};
        for (int above = 0; above < 8; above++) {
            PurrProbates x = new PurrProbates();
            long others = 0x3131313131313131L & ~(255L << 8 * above);
            for (long code : wrong) {
                c.due("put with " + code + " at " + above, x.put(others | code << 8 * above), -2);
            }
            c.due("length", x.count(19), 0);
            c.due("put with 33 at " + above, x.put(others | 33L << 8 * above), 8);
            c.due("put with 126 at " + above, x.put(others | 126L << 8 * above), 16);
        }
        PurrProbates y = new PurrProbates();
        c.due("put(32)", y.put(32), -2);
        c.due("put(33)", y.put(33), 1);
        c.due("put(126)", y.put(126), 2);
        c.due("put(127)", y.put(127), -2);
        c.due("put(-1)", y.put(-1), -2);
        c.due("put(least)", y.put(Long.MIN_VALUE), -2);
        c.due("put(greatest)", y.put(Long.MAX_VALUE), -2);
    }

    // "8 bits that are 0 mean that there are no more characters, and everything above them has to be 0, too"

    private static void putZeros(Checks c) {
        for (int above = 0; above < 7; above++) {
            PurrProbates x = new PurrProbates();
            long below = 0x3131313131313131L & ((1L << 8 * above) - 1);
            for (int bit = 8 * above + 8; bit < 64; bit++) {
                c.due("put with no more at " + above + " and the bit " + bit, x.put(below | 1L << bit), -2);
            }
            c.due("put of what is below", x.put(below), above == 0 ? -2 : above);
        }
    }

    // "TOO_MANY if the pad would be longer than 60"

    private static void putToSixty(Checks c) {
        for (int codes = 1; codes <= 8; codes++) {
            PurrProbates x = new PurrProbates();
            for (int i = 0; i < 60 - codes; i++) {
                x.put('1');
            }
            String text = "12345678".substring(0, codes);
            if (codes < 8) {
                c.refused(x, Checks.answers(x), "put of one too many", x.put(Checks.number(text + "9")), -4);
            }
            c.due("put of " + codes + " to " + (60 - codes), x.put(Checks.number(text)), 60);
            c.refused(x, Checks.answers(x), "put of 1 to 60", x.put('1'), -4);
            c.refused(x, Checks.answers(x), "put of 8 to 60", x.put(Checks.number("12345678")), -4);
            c.due("wipe()", x.wipe(), 60);
            c.due("put of 1 to 0", x.put('1'), 1);
        }
    }

    // "Empties the pad, and returns the length that it had."

    private static void wipe(Checks c) {
        PurrProbates x = new PurrProbates();
        c.due("wipe() of nothing", x.wipe(), 0);
        x.put('~');
        c.due("wipe() of 1", x.wipe(), 1);
        c.due("wipe() again", x.wipe(), 0);
        Checks.putAll(x, "1f1,1f1,1f1,1f1,1f1,1f1,1f1,1f1,1f1,1f1,1f1,1f1,1f1,1f1,1f1,");
        c.due("wipe() of 60", x.wipe(), 60);
        c.due("fault()", x.fault(), 0);
        c.due("wipe is no change", x.count(20), 0);
    }

    private static void fault(Checks c, String text, int want) {
        PurrProbates x = new PurrProbates();
        Checks.putAll(x, text);
        c.due("fault() of " + text, x.fault(), want);
        c.due("the pad is as it was", x.count(19), text.length());
    }

    // "if there is none and the text ends too early (also if it is empty), it is the length of the text"

    private static void faultTooEarly(Checks c) {
        fault(c, "", 0);
        fault(c, "1", 1);
        fault(c, "1f", 2);
        fault(c, "1f0", -6);
        fault(c, "1f0,", 4);
        fault(c, "1f0,9", 5);
        fault(c, "1f0,9f", 6);
        fault(c, "1f0,9f100", -6);
    }

    // "the index of the first character that cannot stand at its place when the text is read from left to right"

    private static void faultFirst(Checks c) {
        fault(c, "0f5", 0);
        fault(c, "!", 0);
        fault(c, "~1f5", 0);
        fault(c, "1e5", 1);
        fault(c, "1f!", 2);
        fault(c, "1f5~", 3);
        fault(c, "1f5,0f5,0f5", 4);
        fault(c, "1f5,9f5,9ff", 10);
        fault(c, "1f5,,9f5", 4);
        fault(c, ",1f5", 0);
    }

    // "a warmth is a digit 1 to 9, a share a number from 0 to 100 without leading zeros"

    private static void faultShares(Checks c) {
        fault(c, "1f0", -6);
        fault(c, "9f0", -6);
        fault(c, "10f0", 1);
        fault(c, "1f00", 3);
        fault(c, "1f01", 3);
        fault(c, "1f9", -6);
        fault(c, "1f10", -6);
        fault(c, "1f99", -6);
        fault(c, "1f100", -6);
        fault(c, "1f101", 4);
        fault(c, "1f110", 4);
        fault(c, "1f990", 4);
        fault(c, "1f1000", 5);
        fault(c, "1f100,1f1000", 11);
    }

    // "The pad is a text of at most 60 characters"

    private static void faultOfAFullPad(Checks c) {
        String fourteen = "1f1,1f1,1f1,1f1,1f1,1f1,1f1,1f1,1f1,1f1,1f1,1f1,1f1,1f1,";
        fault(c, fourteen + "9f99", -6);
        fault(c, fourteen + "9f9,", 60);
        fault(c, fourteen + "9f09", 59);
        fault(c, fourteen + "9f9f", 59);
        fault(c, "0" + fourteen + "9f9", 0);
    }
}
