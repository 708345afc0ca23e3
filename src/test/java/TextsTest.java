/** Promises 16 to 18: put, wipe and fault. */
public final class TextsTest {
    public static void main(String[] args) {
        Checks c = new Checks("TextsTest");
        put(c);
        putWrong(c);
        putTooMany(c);
        wipe(c);
        faults(c);
        c.finish();
    }

    private static void put(Checks c) {
        PurrProbates x = new PurrProbates();
        c.due("put(5)", x.put('5'), 1);
        c.due("put(f1)", x.put(Checks.number("f1")), 3);
        c.due("put(00,9f100)", x.put(Checks.number("00,9f100")), 11);
        c.due("count(19)", x.count(19), 11);
        c.due("put is no change", x.count(20), 0);
        c.due("read()", x.read(), 2);
        c.due("person(0, 1)", x.person(0, 1), 100);
        c.due("person(1, 0)", x.person(1, 0), 9);
        c.due("put(33)", x.put(33), 1);
        c.due("put(126)", x.put(126), 2);
        c.due("put of 8 signs 126", x.put(0x7e7e7e7e7e7e7e7eL), 10);
    }

    private static void putWrong(Checks c) {
        long[] wrong = {0, 32, 127, 128, 255, 0x3000, 0x300030, 0x30000000000000L, 0x3030303030303000L,
            0x3000303030303030L, 0x2030, 0x3020, 0x307f, 0x7f30, 0x2030303030303030L, 0x7f30303030303030L,
            -1, Long.MIN_VALUE, Long.MAX_VALUE, 0x8030303030303030L, 0xb030303030303030L, 0x0100000000000030L,
            0x0130, 0x0100000000000035L};
        for (long number : wrong) {
            PurrProbates x = Checks.withPeople("4f50");
            x.put('7');
            c.refused(x, Checks.answers(x), "put(" + number + ")", x.put(number), -2);
        }
    }

    private static void putTooMany(Checks c) {
        PurrProbates x = new PurrProbates();
        for (int i = 1; i <= 7; i++) {
            c.due("put of 8", x.put(Checks.number("12345678")), 8 * i);
        }
        String before = Checks.answers(x);
        c.refused(x, before, "put of 5 to 56", x.put(Checks.number("12345")), -4);
        c.refused(x, before, "put of 8 to 56", x.put(Checks.number("12345678")), -4);
        c.due("put of 4 to 56", x.put(Checks.number("1234")), 60);
        before = Checks.answers(x);
        c.refused(x, before, "put of 1 to 60", x.put('1'), -4);
        c.refused(x, before, "put of none to 60", x.put(0), -2);
        c.refused(x, before, "put of a wrong code to 60", x.put(0x3120), -2);
    }

    private static void wipe(Checks c) {
        PurrProbates x = new PurrProbates();
        c.due("wipe()", x.wipe(), 0);
        Checks.putAll(x, "5f5,");
        c.due("wipe()", x.wipe(), 4);
        c.due("count(19)", x.count(19), 0);
        c.due("wipe()", x.wipe(), 0);
        c.due("wipe is no change", x.count(20), 0);
        Checks.putAll(x, "9f");
        c.due("nothing of the old text is left", x.fault(), 2);
        Checks.putAll(x, "123456781234567812345678123456781234567812345678123456781f");
        c.due("wipe() of 60", x.wipe(), 60);
    }

    private static void faults(Checks c) {
        fault(c, "", 0);
        fault(c, "0", 0);
        fault(c, "f", 0);
        fault(c, ",", 0);
        fault(c, "~", 0);
        fault(c, ":", 0);
        fault(c, "/", 0);
        fault(c, "1", 1);
        fault(c, "9", 1);
        fault(c, "99", 1);
        fault(c, "5F", 1);
        fault(c, "5g", 1);
        fault(c, "5,", 1);
        fault(c, "5f", 2);
        fault(c, "5f,", 2);
        fault(c, "5f:", 2);
        fault(c, "5f/", 2);
        fault(c, "5ff", 2);
        fault(c, "5f-1", 2);
        for (int share = 0; share <= 120; share++) {
            fault(c, "5f" + share, share <= 100 ? -6 : 4);
            fault(c, "5f" + share + ",", share <= 100 ? (share + "").length() + 3 : 4);
            fault(c, "1f1,5f" + share + ",9f9", share <= 100 ? -6 : 8);
        }
        fault(c, "5f00", 3);
        fault(c, "5f01", 3);
        fault(c, "5f09,1f1", 3);
        fault(c, "5f1000", 5);
        fault(c, "5f1001", 5);
        fault(c, "5f200", 4);
        fault(c, "5f999", 4);
        fault(c, "5f1f", 3);
        fault(c, "5f10f", 4);
        fault(c, "5f1/", 3);
        fault(c, "5f1:", 3);
        fault(c, "5f100f", 5);
        fault(c, "5f0f", 3);
        fault(c, "5f5,0f5", 4);
        fault(c, "5f5,,", 4);
        fault(c, "5f5,5", 5);
        fault(c, "5f5,5f", 6);
        fault(c, "5f5;5f5", 3);
        fault(c, "5f100,5f100", -6);
        fault(c, "1f1,2f2,3f3,4f4,5f5,6f6,7f7,8f8,9f9", -6);
        fault(c, "1f1,1f1,1f1,1f1,1f1,1f1,1f1,1f1,1f1,1f1,1f1,1f1,1f1,1f1,1f1,", 60);
        fault(c, "1f1,1f1,1f1,1f1,1f1,1f1,1f1,1f1,1f1,1f1,1f1,1f1,1f1,1f1,1f10", -6);
    }

    private static void fault(Checks c, String text, int want) {
        PurrProbates x = new PurrProbates();
        c.due("length", Checks.putAll(x, text), text.length());
        c.due("fault() of " + text, x.fault(), want);
        c.due("count(19)", x.count(19), text.length());
    }
}
