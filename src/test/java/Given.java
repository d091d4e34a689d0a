/** Objects and steps that tests begin with. */
final class Given {
    static final int OFF = 0;
    static final int LOW = 1;
    static final int HIGH = 2;
    static final int SMALL = 0;
    static final int LARGE = 1;
    static final int WIDE = 2;
    static final int GREATEST_DRAFT = 9;
    static final int[] STRENGTHS = {2, 4, 3, 6, 1, 5};
    static final int[] HEATS = {500, 700, 600, 850, 550, 900};

    private Given() {
    }

    /** A burner that is turned and pressed. */
    static void open(FlameGuards x, int burner, int tap) {
        x.turn(burner, tap);
        x.press(burner, true);
    }

    /** A burner that is turned, pressed and lit. */
    static void burn(FlameGuards x, int burner, int tap) {
        open(x, burner, tap);
        x.light(burner);
    }

    static void typeAll(FlameGuards x, String text) {
        for (int i = 0; i < text.length(); i++) {
            x.type(text.charAt(i));
        }
    }

    static int readPlan(FlameGuards x, String text) {
        x.clearText();
        typeAll(x, text);
        return x.readPlan();
    }

    /** Also more ticks than one call lets pass. */
    static void pass(FlameGuards x, int ticks) {
        for (int left = ticks; left > 0; left -= 200) {
            x.pass(Math.min(left, 200));
        }
    }

    static FlameGuards atTick(int tick) {
        FlameGuards x = new FlameGuards();
        pass(x, tick);
        return x;
    }

    /** Burner 0 of a kind, with a flame in its first tick. */
    static FlameGuards burning(int kind, int tap) {
        FlameGuards x = new FlameGuards();
        x.setKind(0, kind);
        burn(x, 0, tap);
        return x;
    }

    /** A plan of twelve entries: ticks 10 to 120 with the draft 1. */
    static FlameGuards withFullPlan() {
        FlameGuards x = new FlameGuards();
        for (int tick = 120; tick > 0; tick -= 10) {
            x.plan(tick, 1);
        }
        return x;
    }

    /** A locked burner 3, its tap low and its knob pressed, in a draft of 9; the most tries are 1. */
    static FlameGuards withLock() {
        FlameGuards x = new FlameGuards();
        x.set(1, 1);
        x.plan(0, GREATEST_DRAFT);
        x.igniter(3, true);
        open(x, 3, LOW);
        x.pass(1);
        return x;
    }

    /** So much gas in the room, which does not leave, with all taps off; 9 at the least if it is odd. */
    static FlameGuards withGas(int gas) {
        FlameGuards x = new FlameGuards();
        x.set(2, 0);
        if (gas % 2 == 1) {
            open(x, 2, HIGH);
            x.pass(1);
            x.turn(2, OFF);
        }
        open(x, 0, LOW);
        pass(x, gas / 2 - gas % 2 * 4);
        x.turn(0, OFF);
        x.press(0, false);
        return x;
    }

    /** Something of everything: settings, a plan, events, gas, dark ticks, a lock, a text, a history, a snapshot. */
    static FlameGuards rich() {
        FlameGuards x = new FlameGuards();
        x.set(0, 250);
        x.set(1, 2);
        x.set(2, 1);
        x.set(3, 400);
        x.setKind(1, WIDE);
        x.plan(3, GREATEST_DRAFT);
        x.plan(5, 0);
        burn(x, 0, HIGH);
        x.igniter(3, true);
        open(x, 3, LOW);
        open(x, 2, LOW);
        x.pass(5);
        x.keep();
        typeAll(x, "7:7,8:1");
        x.pass(2);
        x.light(0);
        x.turn(1, LOW);
        x.pass(1);
        x.igniter(1, true);
        return x;
    }
}
