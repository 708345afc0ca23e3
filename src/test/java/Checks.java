/** Counts the answers that are not as due, and ends a test with exit code 1 if there was one. */
final class Checks {
    private final String name;
    private int checked = 0;
    private int wrong = 0;

    Checks(String name) {
        this.name = name;
    }

    void due(String call, long got, long want) {
        checked++;
        if (got != want) {
            wrong++;
            System.out.println(name + ": " + call + " answered " + got + ", due is " + want);
        }
    }

    void due(String call, String got, String want) {
        checked++;
        if (!got.equals(want)) {
            wrong++;
            System.out.println(name + ": " + call + " answered\n  " + got + "\n  due is\n  " + want);
        }
    }

    /** An error is due, and nothing may have changed by the call. */
    void refused(PurrProbates x, String before, String call, long got, long want) {
        due(call, got, want);
        due("all answers behind " + call, answers(x), before);
    }

    int wrong() {
        return wrong;
    }

    void finish() {
        System.out.println(name + ": " + checked + " answers, " + wrong + " wrong");
        if (wrong != 0 || checked == 0) {
            System.exit(1);
        }
    }

    /** All that can be asked of an object, in one text; some 160 calls with 8 people. */
    static String answers(PurrProbates x) {
        StringBuilder all = new StringBuilder();
        for (int what = 0; what <= 20; what++) {
            all.append(x.count(what)).append(what == 20 ? " |" : " ");
        }
        for (int person = 0; person < x.count(7); person++) {
            for (int what = 0; what <= 8; what++) {
                all.append(' ').append(x.person(person, what));
            }
            all.append(" |");
        }
        return all.append(" fault ").append(x.fault()).toString();
    }

    /** A text of 1 to 8 characters as the number that put takes. */
    static long number(String text) {
        long number = 0;
        for (int i = 0; i < text.length(); i++) {
            number = number << 8 | text.charAt(i);
        }
        return number;
    }

    /** Appends a text of any length, in calls of at most 8 characters. */
    static int putAll(PurrProbates x, String text) {
        int length = x.count(19);
        for (int from = 0; from < text.length(); from += 8) {
            length = x.put(number(text.substring(from, Math.min(text.length(), from + 8))));
        }
        return length;
    }

    static PurrProbates withPeople(String text) {
        PurrProbates x = new PurrProbates();
        putAll(x, text);
        x.read();
        return x;
    }
}
