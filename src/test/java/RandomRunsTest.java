import java.util.Random;

/** Long runs of calls, the same at every run of the test, on the program and on the model. */
public final class RandomRunsTest {
    private static final int RUNS = 2500;
    /** Nothing is promised of later calls. */
    private static final int CALLS = 512;
    private static final int MOST_CALLS_AT_ONCE = 16;

    private final Random random;
    private final Checks checks;
    private final PurrProbates program = new PurrProbates();
    private final Model model = new Model();
    private int calls = 0;

    private RandomRunsTest(int run, Checks checks) {
        this.random = new Random(run);
        this.checks = checks;
    }

    public static void main(String[] args) {
        Checks c = new Checks("RandomRunsTest");
        for (int run = 0; run < RUNS && c.wrong() == 0; run++) {
            RandomRunsTest test = new RandomRunsTest(run, c);
            while (test.calls <= CALLS - MOST_CALLS_AT_ONCE && c.wrong() == 0) {
                test.call("run " + run + ", behind " + test.calls + " calls: ");
            }
        }
        c.finish();
    }

    private int below(int bound) {
        return random.nextInt(bound);
    }

    /** Mostly one of 0 to bound - 1, now and then an edge beyond or something far off. */
    private int argument(int bound) {
        switch (below(40)) {
            case 0: return -1;
            case 1: return bound;
            case 2: return random.nextInt();
            case 3: return -6;
            default: return below(bound);
        }
    }

    private int place() {
        return argument(below(3) == 0 ? 8 : Math.max(1, model.count(7)));
    }

    private void due(String call, int got, int want) {
        calls++;
        checks.due(call, got, want);
    }

    private void call(String at) {
        switch (below(26)) {
            case 0: case 1: set(at); break;
            case 2: add(at); break;
            case 3: due(at + "read()", program.read(), model.read()); break;
            case 4: case 5: move(at); break;
            case 6: stepDown(at); break;
            case 7: case 8: appeal(at); break;
            case 9: give(at); break;
            case 10: case 11: case 12: pass(at); break;
            case 13: undo(at); break;
            case 14: slot(at); break;
            case 15: case 16: put(at); break;
            case 17: text(at); break;
            case 18: case 19: person(at); break;
            case 20: case 21: count(at); break;
            case 22: next(at); break;
            case 23: due(at + "untilEmpty()", program.untilEmpty(), model.untilEmpty()); break;
            case 24: ifPassed(at); break;
            default: bestPlace(at); break;
        }
    }

    private void set(String at) {
        int[] usual = {60 + below(50), below(60), below(12), 5 + below(9), 1 + below(9), 40 + below(21)};
        int setting = argument(6);
        int value = below(4) == 0 ? argument(210) : usual[below(6)];
        if (setting >= 0 && setting < 6 && below(3) != 0) {
            value = usual[setting];
        }
        due(at + "set(" + setting + ", " + value + ")", program.set(setting, value), model.set(setting, value));
    }

    private void add(String at) {
        int warmth = argument(10);
        int share = argument(101);
        due(at + "add(" + warmth + ", " + share + ")", program.add(warmth, share), model.add(warmth, share));
    }

    private void move(String at) {
        int person = place();
        int to = place();
        due(at + "move(" + person + ", " + to + ")", program.move(person, to), model.move(person, to));
    }

    private void stepDown(String at) {
        due(at + "stepDown()", program.stepDown(), model.stepDown());
    }

    private void appeal(String at) {
        int person = place();
        due(at + "appeal(" + person + ")", program.appeal(person), model.appeal(person));
    }

    private void give(String at) {
        int coins = below(9) == 0 ? argument(10001) : 1 + below(50);
        due(at + "give(" + coins + ")", program.give(coins), model.give(coins));
    }

    private void pass(String at) {
        int days = below(3) == 0 ? argument(101) : 1 + below(9);
        due(at + "pass(" + days + ")", program.pass(days), model.pass(days));
    }

    private void undo(String at) {
        due(at + "undo()", program.undo(), model.undo());
    }

    private void slot(String at) {
        int slot = argument(2);
        if (below(2) == 0) {
            due(at + "save(" + slot + ")", program.save(slot), model.save(slot));
        } else {
            due(at + "restore(" + slot + ")", program.restore(slot), model.restore(slot));
        }
    }

    /** A piece of a list of people, often a whole one, at times with one wrong bit. */
    private void put(String at) {
        String[] pieces = {"5f10", "9f100", "1f0", "3f7,", ",", ",8f55", "2", "f", "6f99,1f1", "0", "10", ",4f"};
        long characters = Checks.number(pieces[below(pieces.length)]);
        switch (below(12)) {
            case 0: characters ^= 1L << below(64); break;
            case 1: characters = random.nextLong() >> below(64); break;
            case 2: characters <<= 8; break;
            default: break;
        }
        due(at + "put(" + characters + ")", program.put(characters), model.put(characters));
    }

    private void text(String at) {
        due(at + "fault()", program.fault(), model.fault());
        if (below(3) == 0) {
            due(at + "wipe()", program.wipe(), model.wipe());
        }
    }

    private void person(String at) {
        boolean sweep = below(4) == 0;
        int person = place();
        int what = argument(9);
        due(at + "person(" + person + ", " + what + ")", program.person(person, what), model.person(person, what));
        for (int each = 0; each <= 8 && sweep; each++) {
            due(at + "person(" + person + ", " + each + ")", program.person(person, each), model.person(person, each));
        }
    }

    private void count(String at) {
        boolean sweep = below(4) == 0;
        int what = argument(21);
        due(at + "count(" + what + ")", program.count(what), model.count(what));
        for (int each = 6; each <= 20 && sweep; each++) {
            due(at + "count(" + each + ")", program.count(each), model.count(each));
        }
    }

    private void next(String at) {
        int what = argument(2);
        due(at + "next(" + what + ")", program.next(what), model.next(what));
    }

    private void ifPassed(String at) {
        int days = argument(501);
        int what = argument(5);
        due(at + "ifPassed(" + days + ", " + what + ")", program.ifPassed(days, what), model.ifPassed(days, what));
    }

    private void bestPlace(String at) {
        int person = place();
        int what = argument(2);
        due(at + "bestPlace(" + person + ", " + what + ")", program.bestPlace(person, what), model.bestPlace(person, what));
    }
}
