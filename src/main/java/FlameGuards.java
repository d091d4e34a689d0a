/** A stove whose taps are guarded by heated joints. */
public final class FlameGuards {
    public static final int UNKNOWN = -1;
    public static final int BAD_VALUE = -2;
    public static final int FULL = -3;
    public static final int NOT_POSSIBLE = -4;
    public static final int NONE = -5;

    private static final int FAULT_BASE = -100;
    private static final int LAST_PLANNED_TICK = 9999;
    private static final int GREATEST_DRAFT = 9;
    private static final int MOST_TICKS_A_CALL = 200;
    private static final int LAST_TICK = 99999;
    private static final int FARTHEST_LOOK = 500;
    // A joint changes by 1 at the least in a tick, and by less than 1000 in all.
    private static final int LONGEST_CHANGE = 1000;

    private final State state;
    private final State snapshot;
    // A look ahead lets its ticks pass here, so that it changes nothing.
    private final State trial;
    // A text is read in here first, as it may hold too many entries.
    private final Plan planRead;
    private final History history;
    private final Text text;
    private boolean hasSnapshot;

    /** Creates a cold stove. */
    public FlameGuards() {
        state = new State();
        snapshot = new State();
        trial = new State();
        planRead = new Plan();
        history = new History();
        text = new Text();
        hasSnapshot = false;
    }

    // ---- settings

    /** Sets a setting; returns the previous value, UNKNOWN, BAD_VALUE or NONE. */
    public int set(int which, int value) {
        if (!Settings.isOne(which)) {
            return UNKNOWN;
        }
        if (!Settings.allows(which, value)) {
            return BAD_VALUE;
        }
        int previous = state.settings.valueOf(which);
        if (previous == value) {
            return NONE;
        }
        history.record(state);
        state.settings.change(which, value);
        return previous;
    }

    /** Makes a burner one of another kind; returns the previous kind, UNKNOWN, BAD_VALUE, NOT_POSSIBLE or NONE. */
    public int setKind(int burner, int kind) {
        Burner found = state.find(burner);
        if (found == null) {
            return UNKNOWN;
        }
        if (!isWithin(kind, 0, Burner.LAST_KIND)) {
            return BAD_VALUE;
        }
        if (found.tap != Burner.OFF) {
            return NOT_POSSIBLE;
        }
        int previous = found.kind;
        if (previous == kind) {
            return NONE;
        }
        history.record(state);
        found.kind = kind;
        return previous;
    }

    // ---- drafts

    /** Adds or replaces an entry of the plan; returns how many there are then, BAD_VALUE, FULL or NONE. */
    public int plan(int tick, int draft) {
        if (!isWithin(tick, 0, LAST_PLANNED_TICK) || !isWithin(draft, 0, GREATEST_DRAFT)) {
            return BAD_VALUE;
        }
        if (!state.drafts.hasRoomFor(tick)) {
            return FULL;
        }
        if (state.drafts.holds(tick, draft)) {
            return NONE;
        }
        history.record(state);
        state.drafts.put(tick, draft);
        return state.drafts.size;
    }

    /** Makes the entries of the text the plan; returns how many there are then, -100 minus the fault, or FULL. */
    public int readPlan() {
        int fault = text.fault();
        if (fault != Text.NO_FAULT) {
            return FAULT_BASE - fault;
        }
        if (!text.readInto(planRead)) {
            return FULL;
        }
        history.record(state);
        state.drafts.copyFrom(planRead);
        return state.drafts.size;
    }

    // ---- burners

    /** Turns a tap; returns the previous tap, UNKNOWN, BAD_VALUE or NONE. */
    public int turn(int burner, int tap) {
        Burner found = state.find(burner);
        if (found == null) {
            return UNKNOWN;
        }
        if (!isWithin(tap, Burner.OFF, Burner.HIGH)) {
            return BAD_VALUE;
        }
        int previous = found.tap;
        if (previous == tap) {
            return NONE;
        }
        history.record(state);
        found.tap = tap;
        if (tap == Burner.OFF) {
            found.flame = false;
        }
        return previous;
    }

    /** Presses a knob, or lets it go; returns whether the valve is open then (1 or 0), UNKNOWN or NONE. */
    public int press(int burner, boolean is) {
        Burner found = state.find(burner);
        if (found == null) {
            return UNKNOWN;
        }
        if (found.pressed == is) {
            return NONE;
        }
        history.record(state);
        found.pressed = is;
        return oneIf(state.isOpen(found));
    }

    /** Lets an igniter be on or off; returns how many are on then, UNKNOWN or NONE. */
    public int igniter(int burner, boolean is) {
        Burner found = state.find(burner);
        if (found == null) {
            return UNKNOWN;
        }
        if (found.igniter == is) {
            return NONE;
        }
        history.record(state);
        found.igniter = is;
        return state.ignitersOn();
    }

    /** Lights a burner by hand; returns 1 if it is lit, 0 if the draft is too great, UNKNOWN or NOT_POSSIBLE. */
    public int light(int burner) {
        Burner found = state.find(burner);
        if (found == null) {
            return UNKNOWN;
        }
        if (!state.isOpen(found) || found.flame || !state.allowsFire()) {
            return NOT_POSSIBLE;
        }
        history.record(state);
        if (state.draft() > found.strength()) {
            return 0;
        }
        state.kindle(burner, found);
        return 1;
    }

    /** Takes the lock of a burner off; returns how many are locked then, UNKNOWN or NOT_POSSIBLE. */
    public int unlock(int burner) {
        Burner found = state.find(burner);
        if (found == null) {
            return UNKNOWN;
        }
        if (!found.locked || found.tap != Burner.OFF) {
            return NOT_POSSIBLE;
        }
        history.record(state);
        found.locked = false;
        found.tries = 0;
        return state.lockedBurners();
    }

    /** Lets ticks pass; returns how many events there are in them, BAD_VALUE or FULL. */
    public int pass(int ticks) {
        if (!isWithin(ticks, 1, MOST_TICKS_A_CALL)) {
            return BAD_VALUE;
        }
        if (state.tick + ticks > LAST_TICK) {
            return FULL;
        }
        history.record(state);
        int eventsBefore = state.log.total();
        for (int i = 0; i < ticks; i++) {
            state.passTick();
        }
        return state.log.total() - eventsBefore;
    }

    // ---- texts

    /** Types a character behind the text; returns the length then, or FULL. */
    public int type(char character) {
        if (!text.append(character)) {
            return FULL;
        }
        return text.length;
    }

    /** Empties the text; returns the length that it had. */
    public int clearText() {
        int previous = text.length;
        text.empty();
        return previous;
    }

    // ---- history

    /** Restores the latest state of the history; returns the number of states left, or NONE. */
    public int undo() {
        if (!history.takeBack(state)) {
            return NONE;
        }
        return history.size;
    }

    /** Takes a snapshot of the state; returns the tick. */
    public int keep() {
        snapshot.copyFrom(state);
        hasSnapshot = true;
        return state.tick;
    }

    /** Restores the state of the snapshot; returns the tick then, or NONE. */
    public int restore() {
        if (!hasSnapshot) {
            return NONE;
        }
        history.record(state);
        state.copyFrom(snapshot);
        return state.tick;
    }

    // ---- what is told

    /** Tells a number of a burner; or UNKNOWN, BAD_VALUE. */
    public int burner(int burner, int what) {
        Burner found = state.find(burner);
        if (found == null) {
            return UNKNOWN;
        }
        switch (what) {
            case 0:
                return found.kind;
            case 1:
                return found.tap;
            case 2:
                return oneIf(found.pressed);
            case 3:
                return oneIf(found.igniter);
            case 4:
                return oneIf(found.flame);
            case 5:
                return found.temperature;
            case 6:
                return oneIf(state.isOpen(found));
            case 7:
                return oneIf(found.locked);
            case 8:
                return found.tries;
            case 9:
                return found.dark;
            case 10:
                return found.unburnt;
            case 11:
                return found.strength();
            default:
                return BAD_VALUE;
        }
    }

    /** Tells in how many ticks without a flame a joint is below the threshold; or UNKNOWN, NOT_POSSIBLE. */
    public int staysOpen(int burner) {
        Burner found = state.find(burner);
        if (found == null) {
            return UNKNOWN;
        }
        if (found.tap == Burner.OFF || found.locked) {
            return NOT_POSSIBLE;
        }
        int threshold = state.settings.valueOf(Settings.THRESHOLD);
        int temperature = found.temperature;
        int ticks = 0;
        while (temperature >= threshold && ticks < LONGEST_CHANGE) {
            temperature = found.temperatureAfter(temperature, 0);
            ticks++;
        }
        return ticks;
    }

    /** Tells in how many ticks with a flame a joint is at the threshold or above; or UNKNOWN, BAD_VALUE. */
    public int toPress(int burner, int tap) {
        Burner found = state.find(burner);
        if (found == null) {
            return UNKNOWN;
        }
        if (!isWithin(tap, Burner.LOW, Burner.HIGH)) {
            return BAD_VALUE;
        }
        int threshold = state.settings.valueOf(Settings.THRESHOLD);
        int heat = found.heatAt(tap);
        int temperature = found.temperature;
        int ticks = 0;
        while (temperature < threshold && ticks < LONGEST_CHANGE) {
            temperature = found.temperatureAfter(temperature, heat);
            ticks++;
        }
        return ticks;
    }

    /** Tells in how many ticks nothing flows unburnt and no gas is in the room; or NONE. */
    public int clearIn() {
        trial.copyFrom(state);
        for (int ticks = 0; ticks <= FARTHEST_LOOK; ticks++) {
            if (trial.isClear()) {
                return ticks;
            }
            trial.passTick();
        }
        return NONE;
    }

    /** Tells in how many ticks the draft is greater than the strength of a burner; or UNKNOWN, NOT_POSSIBLE, NONE. */
    public int blownIn(int burner) {
        Burner found = state.find(burner);
        if (found == null) {
            return UNKNOWN;
        }
        if (found.tap == Burner.OFF) {
            return NOT_POSSIBLE;
        }
        int strength = found.strength();
        for (int ticks = 0; ticks <= FARTHEST_LOOK; ticks++) {
            if (state.drafts.draftIn(state.tick + ticks) > strength) {
                return ticks;
            }
        }
        return NONE;
    }

    /** Tells the tick or the draft of an entry of the plan; or BAD_VALUE, NONE. */
    public int entry(int place, int what) {
        if (place < 0 || !isWithin(what, 0, 1)) {
            return BAD_VALUE;
        }
        if (place >= state.drafts.size) {
            return NONE;
        }
        return elementAt(what == 0 ? state.drafts.ticks : state.drafts.values, place);
    }

    /** Tells what an event was, its burner or its tick; or BAD_VALUE, NONE. */
    public int event(int back, int what) {
        if (back < 0 || !isWithin(what, 0, 2)) {
            return BAD_VALUE;
        }
        if (back >= state.log.known) {
            return NONE;
        }
        if (what == 0) {
            return elementAt(state.log.events, back);
        }
        return elementAt(what == 1 ? state.log.burners : state.log.ticks, back);
    }

    /** Tells a number of the whole stove; or BAD_VALUE. */
    public int count(int what) {
        switch (what) {
            case 0:
                return state.tick;
            case 1:
                return state.gas;
            case 2:
                return state.draft();
            case 3:
                return state.drafts.size;
            case 4:
            case 5:
            case 6:
            case 7:
                return elementAt(state.log.counts, what - 4);
            case 8:
                return state.flames();
            case 9:
                return state.openValves();
            case 10:
                return state.lockedBurners();
            case 11:
                return state.mostGas;
            case 12:
                return state.mostDark;
            case 13:
                return history.size;
            case 14:
                return text.length;
            default:
                return BAD_VALUE;
        }
    }

    /** Tells a setting; or UNKNOWN. */
    public int setting(int which) {
        if (!Settings.isOne(which)) {
            return UNKNOWN;
        }
        return state.settings.valueOf(which);
    }

    private static boolean isWithin(int value, int least, int most) {
        return value >= least && value <= most;
    }

    private static int oneIf(boolean is) {
        return is ? 1 : 0;
    }

    private static int elementAt(int[] row, int index) {
        return index >= 0 && index < row.length ? row[index] : 0;
    }

    private static void copyRow(int[] from, int[] to) {
        System.arraycopy(from, 0, to, 0, Math.min(from.length, to.length));
    }

    /** The four settings, each within its range. */
    private static final class Settings {
        static final int THRESHOLD = 0;
        static final int MOST_TRIES = 1;
        static final int AIRING = 2;
        static final int LIMIT = 3;

        private static final int[] LEAST = {100, 1, 0, 50};
        private static final int[] MOST = {450, 20, 50, 1000};
        private static final int[] FIRST = {300, 5, 5, 300};

        private final int[] values;

        Settings() {
            values = new int[FIRST.length];
            for (int i = 0; i < FIRST.length; i++) {
                values[i] = FIRST[i];
            }
        }

        static boolean isOne(int which) {
            return isWithin(which, 0, FIRST.length - 1);
        }

        static boolean allows(int which, int value) {
            return isWithin(value, elementAt(LEAST, which), elementAt(MOST, which));
        }

        int valueOf(int which) {
            return elementAt(values, which);
        }

        void change(int which, int value) {
            if (isOne(which)) {
                values[which] = value;
            }
        }

        void copyFrom(Settings other) {
            copyRow(other.values, values);
        }
    }

    /** A burner with its tap, knob, igniter, flame, joint and lock. */
    private static final class Burner {
        static final int OFF = 0;
        static final int LOW = 1;
        static final int HIGH = 2;
        static final int LAST_KIND = 2;

        // Small, large, wide: of each the number with the tap low, then that with the tap high.
        private static final int[] FLOW = {2, 4, 4, 9, 6, 14};
        private static final int[] HEAT = {500, 700, 600, 850, 550, 900};
        private static final int[] STRENGTH = {2, 4, 3, 6, 1, 5};
        // Small, large, wide.
        private static final int[] WARMING = {8, 6, 10};
        private static final int[] COOLING = {10, 14, 20};

        int kind;
        int tap;
        boolean pressed;
        boolean igniter;
        boolean flame;
        int temperature;
        boolean locked;
        int tries;
        int dark;
        int unburnt;

        Burner(int kind) {
            this.kind = kind;
        }

        void copyFrom(Burner other) {
            kind = other.kind;
            tap = other.tap;
            pressed = other.pressed;
            igniter = other.igniter;
            flame = other.flame;
            temperature = other.temperature;
            locked = other.locked;
            tries = other.tries;
            dark = other.dark;
            unburnt = other.unburnt;
        }

        int flow() {
            return told(FLOW, tap);
        }

        int strength() {
            return told(STRENGTH, tap);
        }

        int heatAt(int someTap) {
            return told(HEAT, someTap);
        }

        boolean isOpen(int threshold) {
            return !locked && tap != OFF && (pressed || temperature >= threshold);
        }

        void warmOrCool() {
            temperature = temperatureAfter(temperature, flame ? heatAt(tap) : 0);
        }

        /** A heat of 0 stands for no flame: the joint cools down to it likewise. */
        int temperatureAfter(int before, int heat) {
            if (before < heat) {
                return Math.min(heat, before + quotient(heat - before, elementAt(WARMING, kind)) + 1);
            }
            if (before > heat) {
                return Math.max(heat, before - quotient(before, elementAt(COOLING, kind)) - 1);
            }
            return before;
        }

        private int told(int[] row, int someTap) {
            if (someTap == OFF) {
                return 0;
            }
            return elementAt(row, kind * 2 + someTap - 1);
        }

        private static int quotient(int number, int divisor) {
            return divisor > 0 ? number / divisor : 0;
        }
    }

    /** The planned drafts, by their ticks. */
    private static final class Plan {
        private static final int MOST_ENTRIES = 12;

        final int[] ticks;
        final int[] values;
        int size;

        Plan() {
            ticks = new int[MOST_ENTRIES];
            values = new int[MOST_ENTRIES];
            size = 0;
        }

        void copyFrom(Plan other) {
            copyRow(other.ticks, ticks);
            copyRow(other.values, values);
            size = other.size;
        }

        void clear() {
            size = 0;
        }

        boolean hasRoomFor(int tick) {
            return size < MOST_ENTRIES || placeOf(tick) < size;
        }

        boolean holds(int tick, int draft) {
            int place = placeOf(tick);
            return place < size && elementAt(values, place) == draft;
        }

        /** Returns false, and changes nothing, if there is no room. */
        boolean put(int tick, int draft) {
            if (!hasRoomFor(tick)) {
                return false;
            }
            int place = placeOf(tick);
            if (place == size) {
                place = makePlaceFor(tick);
            }
            if (place >= 0 && place < MOST_ENTRIES) {
                ticks[place] = tick;
                values[place] = draft;
            }
            return true;
        }

        int draftIn(int tick) {
            int draft = 0;
            for (int i = 0; i < size && i < MOST_ENTRIES; i++) {
                if (ticks[i] <= tick) {
                    draft = values[i];
                }
            }
            return draft;
        }

        /** The place of the entry with the tick, or the size if there is none. */
        private int placeOf(int tick) {
            for (int i = 0; i < size && i < MOST_ENTRIES; i++) {
                if (ticks[i] == tick) {
                    return i;
                }
            }
            return size;
        }

        private int makePlaceFor(int tick) {
            int place = size;
            while (place > 0 && place < MOST_ENTRIES && ticks[place - 1] > tick) {
                ticks[place] = ticks[place - 1];
                values[place] = values[place - 1];
                place--;
            }
            size++;
            return place;
        }
    }

    /** The latest events, the latest one first, and how many there were of each. */
    private static final class Log {
        static final int LIT = 0;
        static final int BLOWN_OUT = 1;
        static final int DROPPED = 2;
        static final int LOCKED = 3;

        private static final int MOST_KNOWN = 10;

        final int[] events;
        final int[] burners;
        final int[] ticks;
        final int[] counts;
        int known;

        Log() {
            events = new int[MOST_KNOWN];
            burners = new int[MOST_KNOWN];
            ticks = new int[MOST_KNOWN];
            counts = new int[LOCKED + 1];
            known = 0;
        }

        void copyFrom(Log other) {
            copyRow(other.events, events);
            copyRow(other.burners, burners);
            copyRow(other.ticks, ticks);
            copyRow(other.counts, counts);
            known = other.known;
        }

        void note(int event, int burner, int tick) {
            putFirst(events, event);
            putFirst(burners, burner);
            putFirst(ticks, tick);
            known = Math.min(known + 1, MOST_KNOWN);
            if (isWithin(event, LIT, LOCKED)) {
                counts[event]++;
            }
        }

        int total() {
            int sum = 0;
            for (int number : counts) {
                sum += number;
            }
            return sum;
        }

        private static void putFirst(int[] row, int value) {
            if (row.length > 0) {
                System.arraycopy(row, 0, row, 1, row.length - 1);
                row[0] = value;
            }
        }
    }

    /** All that undo() and restore() bring back. */
    private static final class State {
        private static final int[] FIRST_KINDS = {0, 0, 1, 2};

        final Settings settings;
        final Burner[] burners;
        final Plan drafts;
        final Log log;
        int tick;
        int gas;
        int mostGas;
        int mostDark;

        State() {
            settings = new Settings();
            burners = new Burner[FIRST_KINDS.length];
            for (int i = 0; i < FIRST_KINDS.length; i++) {
                burners[i] = new Burner(FIRST_KINDS[i]);
            }
            drafts = new Plan();
            log = new Log();
        }

        void copyFrom(State other) {
            settings.copyFrom(other.settings);
            for (int i = 0; i < burners.length && i < other.burners.length; i++) {
                burners[i].copyFrom(other.burners[i]);
            }
            drafts.copyFrom(other.drafts);
            log.copyFrom(other.log);
            tick = other.tick;
            gas = other.gas;
            mostGas = other.mostGas;
            mostDark = other.mostDark;
        }

        /** The burner, or null if there is none of the number. */
        Burner find(int index) {
            return index >= 0 && index < burners.length ? burners[index] : null;
        }

        boolean isOpen(Burner burner) {
            return burner.isOpen(settings.valueOf(Settings.THRESHOLD));
        }

        boolean allowsFire() {
            return gas < settings.valueOf(Settings.LIMIT);
        }

        int draft() {
            return drafts.draftIn(tick);
        }

        void kindle(int index, Burner burner) {
            burner.flame = true;
            burner.tries = 0;
            log.note(Log.LIT, index, tick);
        }

        void passTick() {
            int draft = draft();
            // The gas of this tick's earlier burners does not keep a later igniter from sparking.
            boolean sparks = allowsFire();
            for (int i = 0; i < burners.length; i++) {
                Burner burner = burners[i];
                blow(i, burner, draft);
                if (sparks) {
                    spark(i, burner, draft);
                }
                warmOrDrop(i, burner);
                flow(burner);
            }
            mostGas = Math.max(mostGas, gas);
            gas = Math.max(0, gas - settings.valueOf(Settings.AIRING) - draft);
            tick++;
        }

        boolean isClear() {
            if (gas > 0) {
                return false;
            }
            for (Burner burner : burners) {
                if (flowsUnburnt(burner)) {
                    return false;
                }
            }
            return true;
        }

        int ignitersOn() {
            int number = 0;
            for (Burner burner : burners) {
                number += oneIf(burner.igniter);
            }
            return number;
        }

        int flames() {
            int number = 0;
            for (Burner burner : burners) {
                number += oneIf(burner.flame);
            }
            return number;
        }

        int openValves() {
            int number = 0;
            for (Burner burner : burners) {
                number += oneIf(isOpen(burner));
            }
            return number;
        }

        int lockedBurners() {
            int number = 0;
            for (Burner burner : burners) {
                number += oneIf(burner.locked);
            }
            return number;
        }

        private void blow(int index, Burner burner, int draft) {
            if (!burner.flame) {
                return;
            }
            if (!isOpen(burner)) {
                burner.flame = false;
            } else if (draft > burner.strength()) {
                burner.flame = false;
                log.note(Log.BLOWN_OUT, index, tick);
            }
        }

        private void spark(int index, Burner burner, int draft) {
            if (burner.flame || !burner.igniter || !isOpen(burner)) {
                return;
            }
            burner.tries++;
            if (draft <= burner.strength()) {
                kindle(index, burner);
            } else if (burner.tries >= settings.valueOf(Settings.MOST_TRIES)) {
                burner.locked = true;
                log.note(Log.LOCKED, index, tick);
            }
        }

        private void warmOrDrop(int index, Burner burner) {
            boolean wasOpen = isOpen(burner);
            burner.warmOrCool();
            if (wasOpen && !isOpen(burner)) {
                burner.flame = false;
                log.note(Log.DROPPED, index, tick);
            }
        }

        private void flow(Burner burner) {
            if (!flowsUnburnt(burner)) {
                burner.dark = 0;
                return;
            }
            gas += burner.flow();
            burner.unburnt += burner.flow();
            burner.dark++;
            mostDark = Math.max(mostDark, burner.dark);
        }

        private boolean flowsUnburnt(Burner burner) {
            return isOpen(burner) && !burner.flame;
        }
    }

    /** The latest states, the oldest one first. */
    private static final class History {
        private static final int MOST_STATES = 4;

        private final State[] states;
        int size;

        History() {
            states = new State[MOST_STATES];
            for (int i = 0; i < MOST_STATES; i++) {
                states[i] = new State();
            }
            size = 0;
        }

        void record(State state) {
            if (size >= MOST_STATES) {
                dropOldest();
            }
            if (size >= 0 && size < MOST_STATES) {
                states[size].copyFrom(state);
                size++;
            }
        }

        /** Returns false, and changes nothing, if there is no state. */
        boolean takeBack(State state) {
            if (size <= 0 || size > MOST_STATES) {
                return false;
            }
            size--;
            state.copyFrom(states[size]);
            return true;
        }

        /** Its object goes behind the others, to be used for the next state. */
        private void dropOldest() {
            State oldest = states[0];
            for (int i = 1; i < MOST_STATES; i++) {
                states[i - 1] = states[i];
            }
            states[MOST_STATES - 1] = oldest;
            size = MOST_STATES - 1;
        }
    }

    /** The text of a plan, as it is typed. */
    private static final class Text {
        static final int NO_FAULT = -1;

        private static final int MOST_CHARACTERS = 60;

        // The places in an entry. 1, 2 and 3 are behind as many digits of a tick that may have more.
        private static final int ENTRY_START = 0;
        private static final int TICK_WHOLE = 4;
        private static final int COLON_READ = 5;
        private static final int ENTRY_WHOLE = 6;
        private static final int NOT_ALLOWED = 7;

        private final char[] characters;
        int length;

        Text() {
            characters = new char[MOST_CHARACTERS];
            length = 0;
        }

        /** Returns false, and changes nothing, if there is no room. */
        boolean append(char character) {
            if (length < 0 || length >= MOST_CHARACTERS) {
                return false;
            }
            characters[length] = character;
            length++;
            return true;
        }

        void empty() {
            length = 0;
        }

        /** The index of the fault, or NO_FAULT. */
        int fault() {
            int place = ENTRY_START;
            for (int i = 0; i < length && i < MOST_CHARACTERS; i++) {
                place = placeAfter(place, characters[i]);
                if (place == NOT_ALLOWED) {
                    return i;
                }
            }
            return place == ENTRY_WHOLE ? NO_FAULT : length;
        }

        /** Reads a text without a fault; returns false if the plan has no room for it. */
        boolean readInto(Plan plan) {
            plan.clear();
            int tick = 0;
            boolean isDraft = false;
            for (int i = 0; i < length && i < MOST_CHARACTERS; i++) {
                char character = characters[i];
                if (character == ':') {
                    isDraft = true;
                } else if (character == ',') {
                    isDraft = false;
                    tick = 0;
                } else if (!isDraft) {
                    tick = tick * 10 + (character - '0');
                } else if (!plan.put(tick, character - '0')) {
                    return false;
                }
            }
            return true;
        }

        private static int placeAfter(int place, char character) {
            switch (place) {
                case ENTRY_START:
                    if (character == '0') {
                        return TICK_WHOLE;
                    }
                    return isDigit(character) ? 1 : NOT_ALLOWED;
                case 1:
                case 2:
                case 3:
                    if (isDigit(character)) {
                        return place + 1;
                    }
                    return character == ':' ? COLON_READ : NOT_ALLOWED;
                case TICK_WHOLE:
                    return character == ':' ? COLON_READ : NOT_ALLOWED;
                case COLON_READ:
                    return isDigit(character) ? ENTRY_WHOLE : NOT_ALLOWED;
                case ENTRY_WHOLE:
                    return character == ',' ? ENTRY_START : NOT_ALLOWED;
                default:
                    return NOT_ALLOWED;
            }
        }

        private static boolean isDigit(char character) {
            return character >= '0' && character <= '9';
        }
    }
}
