import java.util.ArrayDeque;
import java.util.ArrayList;
import java.util.Deque;
import java.util.List;
import java.util.Map;
import java.util.TreeMap;
import java.util.TreeSet;
import java.util.regex.Matcher;
import java.util.regex.Pattern;

/** A second reading of the document, made with the Java library and other means than the program. */
final class PlainModel {
    static final int UNKNOWN = -1;
    static final int BAD_VALUE = -2;
    static final int FULL = -3;
    static final int NOT_POSSIBLE = -4;
    static final int NONE = -5;

    private static final Pattern PLAN =
            Pattern.compile("(?:0|[1-9][0-9]{0,3}):[0-9](?:,(?:0|[1-9][0-9]{0,3}):[0-9])*");

    /** What the document tells of a kind with a tap. */
    private record Told(int flow, int heat, int strength) {
    }

    private static final Told[][] TOLD = {
        {new Told(2, 500, 2), new Told(4, 700, 4)},
        {new Told(4, 600, 3), new Told(9, 850, 6)},
        {new Told(6, 550, 1), new Told(14, 900, 5)},
    };
    private static final int[][] SLOWNESS = {{8, 10}, {6, 14}, {10, 20}};

    private record Joint(int kind, int tap, boolean pressed, boolean igniter, boolean flame, int heat, boolean locked,
            int tries, int dark, int unburnt) {
        Joint kind(int to) {
            return new Joint(to, tap, pressed, igniter, flame, heat, locked, tries, dark, unburnt);
        }

        Joint tap(int to) {
            return new Joint(kind, to, pressed, igniter, flame && to > 0, heat, locked, tries, dark, unburnt);
        }

        Joint pressed(boolean to) {
            return new Joint(kind, tap, to, igniter, flame, heat, locked, tries, dark, unburnt);
        }

        Joint igniter(boolean to) {
            return new Joint(kind, tap, pressed, to, flame, heat, locked, tries, dark, unburnt);
        }

        Joint out() {
            return new Joint(kind, tap, pressed, igniter, false, heat, locked, tries, dark, unburnt);
        }

        Joint lit() {
            return new Joint(kind, tap, pressed, igniter, true, heat, locked, 0, dark, unburnt);
        }

        Joint tried() {
            return new Joint(kind, tap, pressed, igniter, flame, heat, locked, tries + 1, dark, unburnt);
        }

        Joint locked(boolean to) {
            return new Joint(kind, tap, pressed, igniter, flame, heat, to, to ? tries : 0, dark, unburnt);
        }

        Joint heat(int to) {
            return new Joint(kind, tap, pressed, igniter, flame, to, locked, tries, dark, unburnt);
        }

        Joint flowed() {
            return new Joint(kind, tap, pressed, igniter, flame, heat, locked, tries, dark + 1, unburnt + told().flow());
        }

        Joint bright() {
            return new Joint(kind, tap, pressed, igniter, flame, heat, locked, tries, 0, unburnt);
        }

        Told told() {
            return tap == 0 ? new Told(0, 0, 0) : TOLD[kind][tap - 1];
        }

        boolean open(int threshold) {
            if (locked || tap == 0) {
                return false;
            }
            return pressed || heat >= threshold;
        }
    }

    private record Event(int what, int burner, int tick) {
    }

    private static final class World {
        int[] settings = {300, 5, 5, 300};
        Joint[] joints = new Joint[4];
        TreeMap<Integer, Integer> plan = new TreeMap<>();
        List<Event> events = new ArrayList<>();
        int tick = 0;
        int gas = 0;
        int mostGas = 0;
        int mostDark = 0;

        World() {
            for (int i = 0; i < 4; i++) {
                joints[i] = new Joint(Math.max(0, i - 1), 0, false, false, false, 0, false, 0, 0, 0);
            }
        }

        World(World other) {
            settings = other.settings.clone();
            joints = other.joints.clone();
            plan = new TreeMap<>(other.plan);
            events = new ArrayList<>(other.events);
            tick = other.tick;
            gas = other.gas;
            mostGas = other.mostGas;
            mostDark = other.mostDark;
        }

        int draft(int at) {
            Map.Entry<Integer, Integer> holding = plan.floorEntry(at);
            return holding == null ? 0 : holding.getValue();
        }

        boolean open(int i) {
            return joints[i].open(settings[0]);
        }

        void oneTick() {
            int wind = draft(tick);
            int gasAtStart = gas;
            for (int i = 0; i < 4; i++) {
                if (joints[i].flame()) {
                    if (!open(i)) {
                        joints[i] = joints[i].out();
                    } else if (wind > joints[i].told().strength()) {
                        joints[i] = joints[i].out();
                        events.add(new Event(1, i, tick));
                    }
                }
                if (!joints[i].flame() && open(i) && joints[i].igniter() && gasAtStart < settings[3]) {
                    joints[i] = joints[i].tried();
                    if (wind <= joints[i].told().strength()) {
                        joints[i] = joints[i].lit();
                        events.add(new Event(0, i, tick));
                    } else if (joints[i].tries() >= settings[1]) {
                        joints[i] = joints[i].locked(true);
                        events.add(new Event(3, i, tick));
                    }
                }
                boolean before = open(i);
                joints[i] = joints[i].heat(nextHeat(joints[i].kind(), joints[i].heat(),
                        joints[i].flame() ? joints[i].told().heat() : -1));
                if (before && !open(i)) {
                    joints[i] = joints[i].out();
                    events.add(new Event(2, i, tick));
                }
                if (open(i) && !joints[i].flame()) {
                    joints[i] = joints[i].flowed();
                    gas += joints[i].told().flow();
                    mostDark = Math.max(mostDark, joints[i].dark());
                } else {
                    joints[i] = joints[i].bright();
                }
            }
            mostGas = Math.max(mostGas, gas);
            gas -= settings[2] + wind;
            if (gas < 0) {
                gas = 0;
            }
            tick++;
        }

        boolean clear() {
            boolean clear = gas == 0;
            for (int i = 0; i < 4; i++) {
                clear &= !open(i) || joints[i].flame();
            }
            return clear;
        }

        int happened(int what) {
            return (int) events.stream().filter(event -> event.what() == what).count();
        }
    }

    /** A flame of -1 is none. */
    static int nextHeat(int kind, int heat, int flame) {
        if (flame < 0) {
            int colder = heat - heat / SLOWNESS[kind][1] - 1;
            return colder < 0 ? 0 : colder;
        }
        if (heat < flame) {
            int warmer = heat + (flame - heat) / SLOWNESS[kind][0] + 1;
            return warmer > flame ? flame : warmer;
        }
        if (heat > flame) {
            int colder = heat - heat / SLOWNESS[kind][1] - 1;
            return colder < flame ? flame : colder;
        }
        return heat;
    }

    private World world = new World();
    private final Deque<World> history = new ArrayDeque<>();
    private World snapshot = null;
    private String text = "";

    private void record() {
        history.addLast(new World(world));
        if (history.size() > 4) {
            history.removeFirst();
        }
    }

    private static boolean no(int burner) {
        return burner < 0 || burner > 3;
    }

    int set(int which, int value) {
        int[][] ranges = {{100, 450}, {1, 20}, {0, 50}, {50, 1000}};
        if (which < 0 || which > 3) {
            return UNKNOWN;
        }
        if (value < ranges[which][0] || value > ranges[which][1]) {
            return BAD_VALUE;
        }
        int before = world.settings[which];
        if (before == value) {
            return NONE;
        }
        record();
        world.settings[which] = value;
        return before;
    }

    int setKind(int burner, int kind) {
        if (no(burner)) {
            return UNKNOWN;
        }
        if (kind < 0 || kind > 2) {
            return BAD_VALUE;
        }
        Joint joint = world.joints[burner];
        if (joint.tap() > 0) {
            return NOT_POSSIBLE;
        }
        if (joint.kind() == kind) {
            return NONE;
        }
        record();
        world.joints[burner] = joint.kind(kind);
        return joint.kind();
    }

    int plan(int tick, int draft) {
        if (tick < 0 || tick > 9999 || draft < 0 || draft > 9) {
            return BAD_VALUE;
        }
        Integer there = world.plan.get(tick);
        if (there == null && world.plan.size() == 12) {
            return FULL;
        }
        if (there != null && there == draft) {
            return NONE;
        }
        record();
        world.plan.put(tick, draft);
        return world.plan.size();
    }

    private int fault() {
        for (int i = 0; i < text.length(); i++) {
            Matcher matcher = PLAN.matcher(text.substring(0, i + 1));
            if (!matcher.matches() && !matcher.hitEnd()) {
                return i;
            }
        }
        return PLAN.matcher(text).matches() ? -1 : text.length();
    }

    int readPlan() {
        int fault = fault();
        if (fault >= 0) {
            return -100 - fault;
        }
        TreeMap<Integer, Integer> read = new TreeMap<>();
        for (String entry : text.split(",")) {
            String[] parts = entry.split(":");
            read.put(Integer.valueOf(parts[0]), Integer.valueOf(parts[1]));
        }
        if (read.size() > 12) {
            return FULL;
        }
        record();
        world.plan = read;
        return read.size();
    }

    int turn(int burner, int tap) {
        if (no(burner)) {
            return UNKNOWN;
        }
        if (tap < 0 || tap > 2) {
            return BAD_VALUE;
        }
        int before = world.joints[burner].tap();
        if (before == tap) {
            return NONE;
        }
        record();
        world.joints[burner] = world.joints[burner].tap(tap);
        return before;
    }

    int press(int burner, boolean is) {
        if (no(burner)) {
            return UNKNOWN;
        }
        if (world.joints[burner].pressed() == is) {
            return NONE;
        }
        record();
        world.joints[burner] = world.joints[burner].pressed(is);
        return world.open(burner) ? 1 : 0;
    }

    int igniter(int burner, boolean is) {
        if (no(burner)) {
            return UNKNOWN;
        }
        if (world.joints[burner].igniter() == is) {
            return NONE;
        }
        record();
        world.joints[burner] = world.joints[burner].igniter(is);
        int on = 0;
        for (Joint joint : world.joints) {
            on += joint.igniter() ? 1 : 0;
        }
        return on;
    }

    int light(int burner) {
        if (no(burner)) {
            return UNKNOWN;
        }
        Joint joint = world.joints[burner];
        if (!world.open(burner) || joint.flame() || world.gas >= world.settings[3]) {
            return NOT_POSSIBLE;
        }
        record();
        if (world.draft(world.tick) > joint.told().strength()) {
            return 0;
        }
        world.joints[burner] = joint.lit();
        world.events.add(new Event(0, burner, world.tick));
        return 1;
    }

    int unlock(int burner) {
        if (no(burner)) {
            return UNKNOWN;
        }
        Joint joint = world.joints[burner];
        if (!joint.locked() || joint.tap() > 0) {
            return NOT_POSSIBLE;
        }
        record();
        world.joints[burner] = joint.locked(false);
        return count(10);
    }

    int pass(int ticks) {
        if (ticks < 1 || ticks > 200) {
            return BAD_VALUE;
        }
        if (world.tick > 99999 - ticks) {
            return FULL;
        }
        record();
        int before = world.events.size();
        for (int i = 0; i < ticks; i++) {
            world.oneTick();
        }
        return world.events.size() - before;
    }

    int type(char character) {
        if (text.length() == 60) {
            return FULL;
        }
        text += character;
        return text.length();
    }

    int clearText() {
        int before = text.length();
        text = "";
        return before;
    }

    int undo() {
        if (history.isEmpty()) {
            return NONE;
        }
        world = history.removeLast();
        return history.size();
    }

    int keep() {
        snapshot = new World(world);
        return world.tick;
    }

    int restore() {
        if (snapshot == null) {
            return NONE;
        }
        record();
        world = new World(snapshot);
        return world.tick;
    }

    int burner(int burner, int what) {
        if (no(burner)) {
            return UNKNOWN;
        }
        if (what < 0 || what > 11) {
            return BAD_VALUE;
        }
        Joint joint = world.joints[burner];
        int[] answers = {joint.kind(), joint.tap(), joint.pressed() ? 1 : 0, joint.igniter() ? 1 : 0,
            joint.flame() ? 1 : 0, joint.heat(), world.open(burner) ? 1 : 0, joint.locked() ? 1 : 0, joint.tries(),
            joint.dark(), joint.unburnt(), joint.told().strength()};
        return answers[what];
    }

    int staysOpen(int burner) {
        if (no(burner)) {
            return UNKNOWN;
        }
        Joint joint = world.joints[burner];
        if (joint.tap() == 0 || joint.locked()) {
            return NOT_POSSIBLE;
        }
        int ticks = 0;
        for (int heat = joint.heat(); heat >= world.settings[0]; heat = nextHeat(joint.kind(), heat, -1)) {
            ticks++;
        }
        return ticks;
    }

    int toPress(int burner, int tap) {
        if (no(burner)) {
            return UNKNOWN;
        }
        if (tap != 1 && tap != 2) {
            return BAD_VALUE;
        }
        Joint joint = world.joints[burner];
        int flame = TOLD[joint.kind()][tap - 1].heat();
        int ticks = 0;
        for (int heat = joint.heat(); heat < world.settings[0]; heat = nextHeat(joint.kind(), heat, flame)) {
            ticks++;
        }
        return ticks;
    }

    int clearIn() {
        World ahead = new World(world);
        int ticks = 0;
        while (!ahead.clear()) {
            if (ticks == 500) {
                return NONE;
            }
            ahead.oneTick();
            ticks++;
        }
        return ticks;
    }

    int blownIn(int burner) {
        if (no(burner)) {
            return UNKNOWN;
        }
        if (world.joints[burner].tap() == 0) {
            return NOT_POSSIBLE;
        }
        int strength = world.joints[burner].told().strength();
        TreeSet<Integer> changes = new TreeSet<>(world.plan.tailMap(world.tick, false).keySet());
        changes.add(world.tick);
        for (int at : changes) {
            if (world.draft(at) > strength) {
                return at - world.tick <= 500 ? at - world.tick : NONE;
            }
        }
        return NONE;
    }

    int entry(int place, int what) {
        if (place < 0 || what < 0 || what > 1) {
            return BAD_VALUE;
        }
        if (place >= world.plan.size()) {
            return NONE;
        }
        int tick = new ArrayList<>(world.plan.keySet()).get(place);
        return what == 0 ? tick : world.plan.get(tick);
    }

    int event(int back, int what) {
        if (back < 0 || what < 0 || what > 2) {
            return BAD_VALUE;
        }
        if (back >= 10 || back >= world.events.size()) {
            return NONE;
        }
        Event event = world.events.get(world.events.size() - 1 - back);
        return what == 0 ? event.what() : what == 1 ? event.burner() : event.tick();
    }

    int count(int what) {
        int flames = 0;
        int valves = 0;
        int locks = 0;
        for (int i = 0; i < 4; i++) {
            flames += world.joints[i].flame() ? 1 : 0;
            valves += world.open(i) ? 1 : 0;
            locks += world.joints[i].locked() ? 1 : 0;
        }
        int[] answers = {world.tick, world.gas, world.draft(world.tick), world.plan.size(), world.happened(0),
            world.happened(1), world.happened(2), world.happened(3), flames, valves, locks, world.mostGas,
            world.mostDark, history.size(), text.length()};
        return what < 0 || what >= answers.length ? BAD_VALUE : answers[what];
    }

    int setting(int which) {
        return which < 0 || which > 3 ? UNKNOWN : world.settings[which];
    }
}
