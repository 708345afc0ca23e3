import java.util.ArrayDeque;
import java.util.ArrayList;
import java.util.List;
import java.util.regex.Pattern;

/**
 * The document written down once more, in another way: people are known by reference rather than by place,
 * states are whole copies, and a text's fault is found by trying what could still follow.
 */
final class Model {
    private static final int NO_SUCH = -1, BAD_VALUE = -2, BAD_TEXT = -3, TOO_MANY = -4, NOT_POSSIBLE = -5, NONE = -6;
    private static final Pattern PEOPLE =
            Pattern.compile("[1-9]f(0|[1-9][0-9]?|100)(,[1-9]f(0|[1-9][0-9]?|100))*");
    private static final String[] REST = {"", "f0", "0", "1f0"};

    private static final class Someone {
        int warmth, share, scratches, purse, purrs, days;

        Someone copy() {
            Someone s = new Someone();
            s.warmth = warmth;
            s.share = share;
            s.scratches = scratches;
            s.purse = purse;
            s.purrs = purrs;
            s.days = days;
            return s;
        }
    }

    private static final class World {
        int purr = 70, allow = 30, cost = 10, month = 28, bars = 3, sour = 20;
        List<Someone> list = new ArrayList<>();
        Someone guardian = null;
        /** null: the turn is 0 and nobody is there yet. */
        Someone turn = null;
        int mood = 50, estate = 1000, days = 0, scratches = 0, purrs = 0, deposed = 0, fed = 0, given = 0;

        World copy() {
            World w = new World();
            w.purr = purr;
            w.allow = allow;
            w.cost = cost;
            w.month = month;
            w.bars = bars;
            w.sour = sour;
            for (Someone s : list) {
                Someone copy = s.copy();
                w.list.add(copy);
                if (s == guardian) {
                    w.guardian = copy;
                }
                if (s == turn) {
                    w.turn = copy;
                }
            }
            w.mood = mood;
            w.estate = estate;
            w.days = days;
            w.scratches = scratches;
            w.purrs = purrs;
            w.deposed = deposed;
            w.fed = fed;
            w.given = given;
            return w;
        }

        int turnPlace() {
            return turn == null ? 0 : list.indexOf(turn);
        }

        void turnTo(int place) {
            turn = list.isEmpty() ? null : list.get(place % list.size());
        }

        int score(Someone s) {
            return mood + s.warmth * 5 - s.scratches * 10;
        }

        boolean barred(Someone s) {
            return s.scratches >= bars;
        }

        boolean canAppeal(Someone s) {
            return guardian != null && s != guardian && !barred(s) && s.purse >= cost;
        }

        Someone day() {
            days += 1;
            Someone chosen = null;
            if (guardian == null) {
                List<Someone> asked = new ArrayList<>(list.subList(turnPlace(), list.size()));
                asked.addAll(list.subList(0, turnPlace()));
                asked.removeIf(this::barred);
                if (!asked.isEmpty()) {
                    Someone first = asked.get(0);
                    if (score(first) >= purr) {
                        chosen = guardian = first;
                        first.purrs += 1;
                        purrs += 1;
                    } else {
                        first.scratches += 1;
                        scratches += 1;
                        mood = mood < 3 ? 0 : mood - 3;
                        turnTo(list.indexOf(first) + 1);
                    }
                }
            }
            if (days % month == 0) {
                if (guardian != null) {
                    int paid = estate < allow ? estate : allow;
                    estate -= paid;
                    int food = (int) Math.floor(paid * (guardian.share / 100.0) + 1e-9);
                    fed += food;
                    guardian.purse += paid - food;
                    mood += food / 2;
                    if (mood > 99) {
                        mood = 99;
                    }
                } else {
                    int food = estate < allow / 2 ? estate : allow / 2;
                    estate -= food;
                    fed += food;
                }
                if (guardian != null && mood < sour) {
                    guardian = null;
                    deposed += 1;
                    turnTo(0);
                }
            }
            if (mood < 50) {
                mood += 1;
            } else if (mood > 50) {
                mood -= 1;
            }
            if (guardian != null) {
                guardian.days += 1;
            }
            return chosen;
        }
    }

    private World w = new World();
    private String pad = "";
    private final ArrayDeque<World> history = new ArrayDeque<>();
    private final World[] slots = new World[2];

    private void change() {
        history.addLast(w.copy());
        if (history.size() > 6) {
            history.removeFirst();
        }
    }

    private boolean noSuch(int person) {
        return person < 0 || person >= w.list.size();
    }

    int set(int setting, int value) {
        int[] least = {1, 0, 0, 5, 1, 0};
        int[] most = {200, 200, 99, 40, 9, 60};
        if (setting < 0 || setting > 5 || value < least[setting] || value > most[setting]) {
            return BAD_VALUE;
        }
        change();
        int before = count(setting);
        switch (setting) {
            case 0 -> w.purr = value;
            case 1 -> w.allow = value;
            case 2 -> w.cost = value;
            case 3 -> w.month = value;
            case 4 -> w.bars = value;
            default -> w.sour = value;
        }
        return before;
    }

    private void append(int warmth, int share) {
        Someone s = new Someone();
        s.warmth = warmth;
        s.share = share;
        w.list.add(s);
        if (w.turn == null) {
            w.turn = s;
        }
    }

    int add(int warmth, int share) {
        if (warmth < 1 || warmth > 9 || share < 0 || share > 100) {
            return BAD_VALUE;
        }
        if (w.list.size() == 8) {
            return TOO_MANY;
        }
        change();
        append(warmth, share);
        return w.list.size() - 1;
    }

    int read() {
        if (fault() != NONE) {
            return BAD_TEXT;
        }
        String[] people = pad.split(",");
        if (w.list.size() + people.length > 8) {
            return TOO_MANY;
        }
        change();
        for (String p : people) {
            append(Integer.parseInt(p.substring(0, 1)), Integer.parseInt(p.substring(2)));
        }
        pad = "";
        return w.list.size();
    }

    int move(int person, int place) {
        if (noSuch(person) || noSuch(place)) {
            return NO_SUCH;
        }
        change();
        List<Someone> before = new ArrayList<>(w.list);
        Someone s = w.list.remove(person);
        w.list.add(place, s);
        int moved = 0;
        for (int i = 0; i < before.size(); i++) {
            if (before.get(i) != w.list.get(i)) {
                moved++;
            }
        }
        return moved;
    }

    int stepDown() {
        if (w.guardian == null) {
            return NOT_POSSIBLE;
        }
        change();
        int place = w.list.indexOf(w.guardian);
        w.guardian = null;
        w.turnTo(place + 1);
        return place;
    }

    int appeal(int person) {
        if (noSuch(person)) {
            return NO_SUCH;
        }
        if (!w.canAppeal(w.list.get(person))) {
            return NOT_POSSIBLE;
        }
        change();
        Someone s = w.list.get(person);
        s.purse -= w.cost;
        w.estate += w.cost;
        if (w.score(s) > w.score(w.guardian)) {
            w.guardian = null;
            w.deposed++;
            w.turn = s;
            return 1;
        }
        s.scratches++;
        w.scratches++;
        return 0;
    }

    int give(int coins) {
        if (coins < 1 || coins > 9999) {
            return BAD_VALUE;
        }
        if (w.estate + coins > 99999) {
            return TOO_MANY;
        }
        change();
        w.given += coins;
        return w.estate += coins;
    }

    int pass(int days) {
        if (days < 1 || days > 99) {
            return BAD_VALUE;
        }
        if (w.days + days > 9999) {
            return TOO_MANY;
        }
        change();
        int purrs = 0;
        for (int i = 0; i < days; i++) {
            purrs += w.day() == null ? 0 : 1;
        }
        return purrs;
    }

    int person(int person, int what) {
        if (noSuch(person)) {
            return NO_SUCH;
        }
        if (what < 0 || what > 8) {
            return BAD_VALUE;
        }
        Someone s = w.list.get(person);
        int[] answers = {s.warmth, s.share, s.scratches, s.purse, w.barred(s) ? 1 : 0, 1000 + w.score(s), s.purrs,
            s.days, w.canAppeal(s) ? 1 : 0};
        return answers[what];
    }

    int count(int what) {
        if (what < 0 || what > 20) {
            return BAD_VALUE;
        }
        int barred = (int) w.list.stream().filter(w::barred).count();
        int purses = w.list.stream().mapToInt(s -> s.purse).sum();
        int[] answers = {w.purr, w.allow, w.cost, w.month, w.bars, w.sour, w.days, w.list.size(), w.mood,
            w.guardian == null ? NONE : w.list.indexOf(w.guardian), w.guardian == null ? w.turnPlace() : NONE,
            w.estate, barred, w.scratches, w.purrs, w.deposed, w.fed, purses, w.given, pad.length(), history.size()};
        return answers[what];
    }

    int next(int what) {
        if (what < 0 || what > 1) {
            return BAD_VALUE;
        }
        World t = w.copy();
        for (int i = 1; i <= 500; i++) {
            Someone s = t.day();
            if (s != null) {
                return what == 0 ? t.list.indexOf(s) : i;
            }
        }
        return NONE;
    }

    int untilEmpty() {
        World t = w.copy();
        int days = 0;
        while (t.estate > 0 && days < 2000) {
            t.day();
            days++;
        }
        return t.estate > 0 ? NONE : days;
    }

    int ifPassed(int days, int what) {
        if (days < 1 || days > 500 || what < 0 || what > 4) {
            return BAD_VALUE;
        }
        World t = w.copy();
        for (int i = 0; i < days; i++) {
            t.day();
        }
        int[] answers = {t.purrs - w.purrs, t.scratches - w.scratches, t.fed - w.fed, t.mood,
            t.guardian == null ? NONE : t.list.indexOf(t.guardian)};
        return answers[what];
    }

    int bestPlace(int person, int what) {
        if (noSuch(person)) {
            return NO_SUCH;
        }
        if (what < 0 || what > 1) {
            return BAD_VALUE;
        }
        int[] days = new int[w.list.size()];
        int best = 0;
        for (int place = 0; place < days.length; place++) {
            World t = w.copy();
            Someone s = t.list.remove(person);
            t.list.add(place, s);
            for (int i = 0; i < 100; i++) {
                t.day();
                days[place] += t.guardian == s ? 1 : 0;
            }
            best = days[place] > days[best] ? place : best;
        }
        return what == 0 ? best : days[best];
    }

    int put(long characters) {
        StringBuilder text = new StringBuilder();
        boolean ended = false;
        for (int i = 0; i < 8; i++) {
            int code = (int) (characters >> (8 * i)) & 255;
            if (code == 0) {
                ended = true;
            } else if (ended || code < 33 || code > 126) {
                return BAD_VALUE;
            } else {
                text.insert(0, (char) code);
            }
        }
        if (text.length() == 0) {
            return BAD_VALUE;
        }
        if (pad.length() + text.length() > 60) {
            return TOO_MANY;
        }
        pad += text;
        return pad.length();
    }

    int wipe() {
        int length = pad.length();
        pad = "";
        return length;
    }

    int fault() {
        for (int i = 0; i < pad.length(); i++) {
            boolean canStand = false;
            for (String rest : REST) {
                canStand |= PEOPLE.matcher(pad.substring(0, i + 1) + rest).matches();
            }
            if (!canStand) {
                return i;
            }
        }
        return PEOPLE.matcher(pad).matches() ? NONE : pad.length();
    }

    int undo() {
        if (history.isEmpty()) {
            return NOT_POSSIBLE;
        }
        w = history.removeLast();
        return history.size();
    }

    int save(int slot) {
        if (slot < 0 || slot > 1) {
            return BAD_VALUE;
        }
        slots[slot] = w.copy();
        return w.days;
    }

    int restore(int slot) {
        if (slot < 0 || slot > 1) {
            return BAD_VALUE;
        }
        if (slots[slot] == null) {
            return NOT_POSSIBLE;
        }
        change();
        w = slots[slot].copy();
        return w.days;
    }
}
