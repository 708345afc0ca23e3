/** The probate of a cat: guardianship that passes by the first purr. */
public final class PurrProbates {
    public static final int NO_SUCH = -1, BAD_VALUE = -2, BAD_TEXT = -3, TOO_MANY = -4, NOT_POSSIBLE = -5, NONE = -6;
    public static final int PURR = 0, ALLOW = 1, COST = 2, MONTH = 3, BARS = 4, SOUR = 5;

    private static final int[] FIRST_VALUES = {70, 30, 10, 28, 3, 20};
    private static final int[] LOWEST_VALUES = {1, 0, 0, 5, 1, 0};
    private static final int[] HIGHEST_VALUES = {200, 200, 99, 40, 9, 60};

    private static final int MOST_PEOPLE = 8;
    private static final int MOST_WARMTH = 9;
    private static final int MOST_SHARE = 100;
    private static final int FIRST_COINS = 1000;
    private static final int MOST_COINS = 99999;
    private static final int MOST_GIVEN_AT_ONCE = 9999;
    private static final int EVEN_MOOD = 50;
    private static final int MOST_MOOD = 99;
    private static final int MOST_DAYS = 9999;
    private static final int MOST_DAYS_AT_ONCE = 99;
    private static final int MOST_DAYS_UNTIL_NEXT = 500;
    private static final int MOST_DAYS_UNTIL_EMPTY = 2000;
    private static final int MOST_DAYS_IF_PASSED = 500;
    private static final int DAYS_FOR_BEST_PLACE = 100;
    private static final int TOLD_ABOVE_SCORE = 1000;
    private static final int MOST_CHARACTERS = 60;
    private static final int MOST_CHARACTERS_AT_ONCE = 8;
    private static final int MOST_STATES = 6;
    private static final int SLOTS = 2;

    private final State now = new State();
    /** What the what-if calls try things on; it is overwritten by each of them. */
    private final State trial = new State();
    private final History history = new History();
    private final State[] slots = new State[SLOTS];
    private final Pad pad = new Pad();

    /** Creates a probate without people, on the day 0. */
    public PurrProbates() {
    }

    // ---- changes

    /** Changes a setting; returns the previous value. */
    public int set(int setting, int value) {
        if (!isSetting(setting)) {
            return BAD_VALUE;
        }
        if (value < LOWEST_VALUES[setting] || value > HIGHEST_VALUES[setting]) {
            return BAD_VALUE;
        }
        history.record(now);
        int previous = now.settings[setting];
        now.settings[setting] = value;
        return previous;
    }

    /** Adds a person at the end of the list; returns the number. */
    public int add(int warmth, int share) {
        if (warmth < 1 || warmth > MOST_WARMTH || share < 0 || share > MOST_SHARE) {
            return BAD_VALUE;
        }
        if (now.size >= MOST_PEOPLE) {
            return TOO_MANY;
        }
        history.record(now);
        now.admit(warmth, share);
        return now.size - 1;
    }

    /** Adds the people of the pad, and empties it; returns how many people there are then. */
    public int read() {
        if (pad.firstFault() != NONE) {
            return BAD_TEXT;
        }
        if (now.size + pad.people() > MOST_PEOPLE) {
            return TOO_MANY;
        }
        history.record(now);
        pad.admitPeopleTo(now);
        pad.length = 0;
        return now.size;
    }

    /** Moves a person to another place; returns how many people have another place by that. */
    public int move(int person, int place) {
        if (now.at(person) == null || now.at(place) == null) {
            return NO_SUCH;
        }
        history.record(now);
        now.relocate(person, place);
        return person == place ? 0 : Math.abs(person - place) + 1;
    }

    /** The guardian steps down; returns who it was. */
    public int stepDown() {
        int guardian = now.guardian;
        if (guardian == NONE) {
            return NOT_POSSIBLE;
        }
        history.record(now);
        now.leaveWithoutGuardian(now.behind(guardian));
        return guardian;
    }

    /** A person appeals; returns 1 if the guardian is deposed, otherwise 0. */
    public int appeal(int person) {
        if (now.at(person) == null) {
            return NO_SUCH;
        }
        if (!now.mayAppeal(person)) {
            return NOT_POSSIBLE;
        }
        history.record(now);
        return now.hearAppeal(person) ? 1 : 0;
    }

    /** Gives coins to the estate; returns what it has then. */
    public int give(int coins) {
        if (coins < 1 || coins > MOST_GIVEN_AT_ONCE) {
            return BAD_VALUE;
        }
        if (now.estate + coins > MOST_COINS) {
            return TOO_MANY;
        }
        history.record(now);
        now.estate += coins;
        now.given += coins;
        return now.estate;
    }

    /** Lets days pass; returns how often the cat purrs in them. */
    public int pass(int days) {
        if (days < 1 || days > MOST_DAYS_AT_ONCE) {
            return BAD_VALUE;
        }
        if (now.days + days > MOST_DAYS) {
            return TOO_MANY;
        }
        history.record(now);
        int before = now.purrs;
        now.liveDays(days);
        return now.purrs - before;
    }

    // ---- what there is; nothing changes

    /** Returns something about a person. */
    public int person(int person, int what) {
        Person who = now.at(person);
        if (who == null) {
            return NO_SUCH;
        }
        switch (what) {
            case 0: return who.warmth;
            case 1: return who.share;
            case 2: return who.scratches;
            case 3: return who.purse;
            case 4: return now.isBarred(who) ? 1 : 0;
            case 5: return now.score(who) + TOLD_ABOVE_SCORE;
            case 6: return who.purrs;
            case 7: return who.daysAsGuardian;
            case 8: return now.mayAppeal(person) ? 1 : 0;
            default: return BAD_VALUE;
        }
    }

    /** Returns a number. */
    public int count(int what) {
        if (isSetting(what)) {
            return now.settings[what];
        }
        switch (what) {
            case 6: return now.days;
            case 7: return now.size;
            case 8: return now.mood;
            case 9: return now.guardian;
            case 10: return now.guardian == NONE ? now.turn : NONE;
            case 11: return now.estate;
            case 12: return now.barredPeople();
            case 13: return now.scratches;
            case 14: return now.purrs;
            case 15: return now.deposed;
            case 16: return now.fed;
            case 17: return now.allPurses();
            case 18: return now.given;
            case 19: return pad.length;
            case 20: return history.length;
            default: return BAD_VALUE;
        }
    }

    // ---- what if; nothing changes

    /** Tells who becomes the guardian next, or behind how many days. */
    public int next(int what) {
        if (what != 0 && what != 1) {
            return BAD_VALUE;
        }
        trial.copyFrom(now);
        for (int day = 1; day <= MOST_DAYS_UNTIL_NEXT; day++) {
            int purredAt = trial.liveDay();
            if (purredAt != NONE) {
                return what == 0 ? purredAt : day;
            }
        }
        return NONE;
    }

    /** Tells behind how many days the estate is empty. */
    public int untilEmpty() {
        trial.copyFrom(now);
        for (int day = 0; day <= MOST_DAYS_UNTIL_EMPTY; day++) {
            if (trial.estate == 0) {
                return day;
            }
            trial.liveDay();
        }
        return NONE;
    }

    /** Tells what days would bring. */
    public int ifPassed(int days, int what) {
        if (days < 1 || days > MOST_DAYS_IF_PASSED || what < 0 || what > 4) {
            return BAD_VALUE;
        }
        trial.copyFrom(now);
        trial.liveDays(days);
        switch (what) {
            case 0: return trial.purrs - now.purrs;
            case 1: return trial.scratches - now.scratches;
            case 2: return trial.fed - now.fed;
            case 3: return trial.mood;
            default: return trial.guardian;
        }
    }

    /** Finds the place at which a person would be the guardian longest; returns it, or how many days. */
    public int bestPlace(int person, int what) {
        if (now.at(person) == null) {
            return NO_SUCH;
        }
        if (what != 0 && what != 1) {
            return BAD_VALUE;
        }
        int best = 0;
        int mostDays = -1;
        for (int place = 0; place < now.size; place++) {
            int days = daysAsGuardianIfMoved(person, place);
            if (days > mostDays) {
                best = place;
                mostDays = days;
            }
        }
        return what == 0 ? best : mostDays;
    }

    // ---- texts

    /** Appends characters to the pad; returns its length then. */
    public int put(long characters) {
        int codes = codesIn(characters);
        if (codes == 0) {
            return BAD_VALUE;
        }
        if (pad.length + codes > MOST_CHARACTERS) {
            return TOO_MANY;
        }
        for (int above = codes - 1; above >= 0; above--) {
            pad.append((char) ((characters >>> (8 * above)) & 255));
        }
        return pad.length;
    }

    /** Empties the pad, and returns the length that it had. */
    public int wipe() {
        int length = pad.length;
        pad.length = 0;
        return length;
    }

    /** Returns the fault of the pad, NONE if there is none. */
    public int fault() {
        return pad.firstFault();
    }

    // ---- undo, saving

    /** Undoes the latest change; returns how many changes can be undone then. */
    public int undo() {
        if (history.length == 0) {
            return NOT_POSSIBLE;
        }
        history.takeBack(now);
        return history.length;
    }

    /** Saves in a slot; returns the days. */
    public int save(int slot) {
        if (!isSlot(slot)) {
            return BAD_VALUE;
        }
        if (slots[slot] == null) {
            slots[slot] = new State();
        }
        slots[slot].copyFrom(now);
        return now.days;
    }

    /** Restores what was saved last in a slot; returns the days then. */
    public int restore(int slot) {
        if (!isSlot(slot)) {
            return BAD_VALUE;
        }
        State saved = slots[slot];
        if (saved == null) {
            return NOT_POSSIBLE;
        }
        history.record(now);
        now.copyFrom(saved);
        return now.days;
    }

    private static boolean isSetting(int setting) {
        return setting >= 0 && setting < FIRST_VALUES.length;
    }

    private static boolean isSlot(int slot) {
        return slot >= 0 && slot < SLOTS;
    }

    private int daysAsGuardianIfMoved(int person, int place) {
        trial.copyFrom(now);
        trial.relocate(person, place);
        Person who = trial.at(place);
        if (who == null) {
            return 0;
        }
        int before = who.daysAsGuardian;
        trial.liveDays(DAYS_FOR_BEST_PLACE);
        return who.daysAsGuardian - before;
    }

    /** How many characters a number gives, 0 if it is not a number that gives characters. */
    private static int codesIn(long characters) {
        long rest = characters;
        int codes = 0;
        while (codes < MOST_CHARACTERS_AT_ONCE && (rest & 255) != 0) {
            long code = rest & 255;
            if (code < 33 || code > 126) {
                return 0;
            }
            rest >>>= 8;
            codes++;
        }
        return rest == 0 ? codes : 0;
    }

    /** A person of the list. */
    private static final class Person {
        int warmth;
        int share;
        int scratches;
        int purse;
        int purrs;
        int daysAsGuardian;

        void copyFrom(Person other) {
            warmth = other.warmth;
            share = other.share;
            scratches = other.scratches;
            purse = other.purse;
            purrs = other.purrs;
            daysAsGuardian = other.daysAsGuardian;
        }

        /** The rows are used again, so that nothing of whom they held before may stay. */
        void begin(int newWarmth, int newShare) {
            warmth = newWarmth;
            share = newShare;
            scratches = 0;
            purse = 0;
            purrs = 0;
            daysAsGuardian = 0;
        }
    }

    /** All that a change may change: what is undone, saved and tried. */
    private static final class State {
        final int[] settings = FIRST_VALUES.clone();
        final Person[] people = new Person[MOST_PEOPLE];
        int size = 0;
        int mood = EVEN_MOOD;
        int guardian = NONE;
        /** Means nothing while there is a guardian: whatever ends a guardianship tells it anew. */
        int turn = 0;
        int estate = FIRST_COINS;
        int days = 0;
        int scratches = 0;
        int purrs = 0;
        int deposed = 0;
        int fed = 0;
        int given = 0;

        State() {
            for (int place = 0; place < MOST_PEOPLE; place++) {
                people[place] = new Person();
            }
        }

        void copyFrom(State other) {
            System.arraycopy(other.settings, 0, settings, 0, FIRST_VALUES.length);
            size = other.size;
            for (int place = 0; place < MOST_PEOPLE; place++) {
                Person mine = at(place);
                Person others = other.at(place);
                if (mine != null && others != null) {
                    mine.copyFrom(others);
                }
            }
            mood = other.mood;
            guardian = other.guardian;
            turn = other.turn;
            estate = other.estate;
            days = other.days;
            scratches = other.scratches;
            purrs = other.purrs;
            deposed = other.deposed;
            fed = other.fed;
            given = other.given;
        }

        /** The person at a place, null if there is no such place. */
        Person at(int place) {
            return place >= 0 && place < size && place < MOST_PEOPLE ? people[place] : null;
        }

        int behind(int place) {
            return place + 1 < size ? place + 1 : 0;
        }

        boolean isBarred(Person who) {
            return who.scratches >= settings[BARS];
        }

        int score(Person who) {
            return mood + 5 * who.warmth - 10 * who.scratches;
        }

        int barredPeople() {
            int barred = 0;
            for (int place = 0; place < size; place++) {
                Person who = at(place);
                if (who != null && isBarred(who)) {
                    barred++;
                }
            }
            return barred;
        }

        int allPurses() {
            int coins = 0;
            for (int place = 0; place < size; place++) {
                Person who = at(place);
                if (who != null) {
                    coins += who.purse;
                }
            }
            return coins;
        }

        void admit(int warmth, int share) {
            if (size >= MOST_PEOPLE) {
                return;
            }
            size++;
            Person who = at(size - 1);
            if (who != null) {
                who.begin(warmth, share);
            }
        }

        void relocate(int from, int to) {
            Person moved = at(from);
            if (moved == null || at(to) == null) {
                return;
            }
            for (int place = from; place < to; place++) {
                people[place] = people[place + 1];
            }
            for (int place = from; place > to; place--) {
                people[place] = people[place - 1];
            }
            people[to] = moved;
            guardian = placeAfterMove(guardian, from, to);
            turn = placeAfterMove(turn, from, to);
        }

        /** Where the person of a place is when another, or the same, has moved; NONE stays NONE. */
        int placeAfterMove(int place, int from, int to) {
            if (place == from) {
                return to;
            }
            if (place > from && place <= to) {
                return place - 1;
            }
            if (place < from && place >= to) {
                return place + 1;
            }
            return place;
        }

        void leaveWithoutGuardian(int nextTurn) {
            guardian = NONE;
            turn = nextTurn;
        }

        void depose(int nextTurn) {
            leaveWithoutGuardian(nextTurn);
            deposed++;
        }

        void scratch(Person who) {
            who.scratches++;
            scratches++;
        }

        boolean mayAppeal(int place) {
            Person who = at(place);
            return who != null && guardian != NONE && place != guardian
                    && !isBarred(who) && who.purse >= settings[COST];
        }

        /** Returns whether the guardian is deposed. */
        boolean hearAppeal(int place) {
            Person who = at(place);
            Person holder = at(guardian);
            if (who == null || holder == null) {
                return false;
            }
            who.purse -= settings[COST];
            estate += settings[COST];
            if (score(who) > score(holder)) {
                depose(place);
                return true;
            }
            scratch(who);
            return false;
        }

        void liveDays(int count) {
            for (int day = 0; day < count; day++) {
                liveDay();
            }
        }

        /** Returns the person at whose hand the cat purrs on this day, NONE if it does not. */
        int liveDay() {
            days++;
            int purredAt = guardian == NONE ? holdOutHand() : NONE;
            int month = settings[MONTH];
            if (month > 0 && days % month == 0) {
                endMonth();
            }
            mood += Integer.compare(EVEN_MOOD, mood);
            Person holder = at(guardian);
            if (holder != null) {
                holder.daysAsGuardian++;
            }
            return purredAt;
        }

        int holdOutHand() {
            int place = nextHand();
            Person who = at(place);
            if (who == null) {
                return NONE;
            }
            if (score(who) >= settings[PURR]) {
                guardian = place;
                who.purrs++;
                purrs++;
                return place;
            }
            scratch(who);
            mood = Math.max(0, mood - 3);
            turn = behind(place);
            return NONE;
        }

        /** The first place from the turn on, around the list, whose person is not barred. */
        int nextHand() {
            int place = turn;
            for (int passedOver = 0; passedOver < size; passedOver++) {
                Person who = at(place);
                if (who != null && !isBarred(who)) {
                    return place;
                }
                place = behind(place);
            }
            return NONE;
        }

        void endMonth() {
            Person holder = at(guardian);
            if (holder == null) {
                fed += draw(settings[ALLOW] / 2);
                return;
            }
            int paid = draw(settings[ALLOW]);
            int meal = paid * holder.share / 100;
            fed += meal;
            holder.purse += paid - meal;
            mood = Math.min(MOST_MOOD, mood + meal / 2);
            if (mood < settings[SOUR]) {
                depose(0);
            }
        }

        /** Takes coins from the estate, or all that it has, if that is less; returns how many. */
        int draw(int coins) {
            int drawn = Math.min(coins, estate);
            estate -= drawn;
            return drawn;
        }
    }

    /** The states that undo goes back to, the oldest first. */
    private static final class History {
        final State[] states = new State[MOST_STATES];
        int length = 0;

        History() {
            for (int i = 0; i < MOST_STATES; i++) {
                states[i] = new State();
            }
        }

        void record(State state) {
            if (length >= MOST_STATES) {
                dropOldest();
            }
            if (length >= 0 && length < MOST_STATES && states[length] != null) {
                states[length].copyFrom(state);
                length++;
            }
        }

        /** The row of the oldest state goes behind the others, to be used again. */
        void dropOldest() {
            State oldest = states[0];
            for (int i = 1; i < MOST_STATES; i++) {
                states[i - 1] = states[i];
            }
            states[MOST_STATES - 1] = oldest;
            length = MOST_STATES - 1;
        }

        void takeBack(State state) {
            if (length < 1 || length > MOST_STATES || states[length - 1] == null) {
                return;
            }
            length--;
            state.copyFrom(states[length]);
        }
    }

    /** The text that people are read from. */
    private static final class Pad {
        private static final int WARMTH = 0, LETTER = 1, SHARE = 2, MORE = 3;

        final char[] characters = new char[MOST_CHARACTERS];
        int length = 0;

        void append(char character) {
            if (length >= 0 && length < MOST_CHARACTERS) {
                characters[length] = character;
                length++;
            }
        }

        /** The character at an index; behind the end a comma, since an end closes a person as a comma does. */
        char character(int index) {
            return index >= 0 && index < length && index < MOST_CHARACTERS ? characters[index] : ',';
        }

        int firstFault() {
            int due = WARMTH;
            int share = 0;
            for (int i = 0; i < length; i++) {
                char c = character(i);
                if (!canStand(due, share, c)) {
                    return i;
                }
                share = due != WARMTH && isDigit(c) ? shareWith(share, c) : 0;
                due = dueBehind(due, c);
            }
            return due == MORE ? NONE : length;
        }

        /** Whether a character can stand where something is due, behind the digits of a share. */
        boolean canStand(int due, int share, char c) {
            switch (due) {
                case WARMTH: return c >= '1' && c <= '9';
                case LETTER: return c == 'f';
                case SHARE: return isDigit(c);
                default: return c == ',' || isDigit(c) && share > 0 && shareWith(share, c) <= MOST_SHARE;
            }
        }

        int dueBehind(int due, char c) {
            switch (due) {
                case WARMTH: return LETTER;
                case LETTER: return SHARE;
                case SHARE: return MORE;
                default: return c == ',' ? WARMTH : MORE;
            }
        }

        boolean isDigit(char c) {
            return c >= '0' && c <= '9';
        }

        int shareWith(int share, char digit) {
            return 10 * share + digit - '0';
        }

        /** How many people a pad without a fault has. */
        int people() {
            int people = 1;
            for (int i = 0; i < length; i++) {
                if (character(i) == ',') {
                    people++;
                }
            }
            return people;
        }

        /** Reads a pad without a fault. */
        void admitPeopleTo(State state) {
            int warmth = 0;
            int share = 0;
            for (int i = 0; i <= length; i++) {
                char c = character(i);
                if (c == ',') {
                    state.admit(warmth, share);
                    warmth = 0;
                    share = 0;
                } else if (warmth == 0) {
                    warmth = c - '0';
                } else if (c != 'f') {
                    share = shareWith(share, c);
                }
            }
        }
    }
}
