import java.util.List;

/** One method for each promise of the document, with the terms that it rests on. */
public final class PromiseTest {
    private static final Check CHECK = new Check("PromiseTest");
    private static final int UNKNOWN = FlameGuards.UNKNOWN;
    private static final int BAD_VALUE = FlameGuards.BAD_VALUE;
    private static final int FULL = FlameGuards.FULL;
    private static final int NOT_POSSIBLE = FlameGuards.NOT_POSSIBLE;
    private static final int NONE = FlameGuards.NONE;
    private static final int LOW = Given.LOW;
    private static final int HIGH = Given.HIGH;
    private static final int[] FAR = {Integer.MIN_VALUE, -1, Integer.MAX_VALUE};

    private PromiseTest() {
    }

    public static void main(String[] args) {
        failures();
        CHECK.end();
    }

    /** For CallLimitTest too, with another program. */
    public static int failures() {
        promise1NewObject();
        promise2Set();
        promise3SetKind();
        promise4Plan();
        promise5ReadPlan();
        promise6Turn();
        promise7Press();
        promise8Igniter();
        promise9Light();
        promise10Unlock();
        promise11Pass();
        promise11Joints();
        promise11Drafts();
        promise11Locks();
        promise11Gas();
        promise11OrderOfBurners();
        promise12Type();
        promise13ClearText();
        promise14Undo();
        promise14EveryAct();
        promise15Keep();
        promise16Restore();
        promise17Burner();
        promise18StaysOpen();
        promise19ToPress();
        promise20ClearIn();
        promise21BlownIn();
        promise22Entry();
        promise23Event();
        promise24Count();
        promise25Setting();
        return CHECK.failures();
    }

    private static void due(String call, long got, long want) {
        CHECK.due(call, got, want);
    }

    /** To be called with what was seen ahead of calls that must have changed nothing. */
    private static void unchanged(String calls, FlameGuards x, List<Integer> before) {
        CHECK.isTrue(calls + " changed something", Seen.all(x).equals(before));
    }

    private static void passOneByOne(FlameGuards x, int ticks) {
        for (int i = 0; i < ticks; i++) {
            x.pass(1);
        }
    }

    private static void promise1NewObject() {
        FlameGuards x = new FlameGuards();
        int[] kinds = {0, 0, 1, 2};
        for (int burner = 0; burner < 4; burner++) {
            due("new: kind of " + burner, x.burner(burner, 0), kinds[burner]);
            for (int what = 1; what <= 11; what++) {
                due("new: burner(" + burner + ", " + what + ")", x.burner(burner, what), 0);
            }
        }
        int[] settings = {300, 5, 5, 300};
        for (int which = 0; which < 4; which++) {
            due("new: setting(" + which + ")", x.setting(which), settings[which]);
        }
        for (int what = 0; what <= 14; what++) {
            due("new: count(" + what + ")", x.count(what), 0);
        }
        due("new: event", x.event(0, 0), NONE);
        due("new: entry", x.entry(0, 0), NONE);
        due("new: undo", x.undo(), NONE);
        due("new: restore", x.restore(), NONE);
        x.pass(7);
        due("another object's tick", new FlameGuards().count(0), 0);
    }

    private static void promise2Set() {
        int[] least = {100, 1, 0, 50};
        int[] most = {450, 20, 50, 1000};
        int[] first = {300, 5, 5, 300};
        for (int which = 0; which < 4; which++) {
            FlameGuards x = new FlameGuards();
            List<Integer> before = Seen.all(x);
            due("set to a value below", x.set(which, least[which] - 1), BAD_VALUE);
            due("set to a value above", x.set(which, most[which] + 1), BAD_VALUE);
            due("set far below", x.set(which, Integer.MIN_VALUE), BAD_VALUE);
            due("set far above", x.set(which, Integer.MAX_VALUE), BAD_VALUE);
            due("set as it is", x.set(which, first[which]), NONE);
            unchanged("a refused set", x, before);
            due("set to the least", x.set(which, least[which]), first[which]);
            due("the least", x.setting(which), least[which]);
            due("set to the most", x.set(which, most[which]), least[which]);
            due("the most", x.setting(which), most[which]);
        }
        FlameGuards x = new FlameGuards();
        List<Integer> before = Seen.all(x);
        due("set(4, 1)", x.set(4, 1), UNKNOWN);
        for (int which : FAR) {
            due("set(" + which + ", -1)", x.set(which, -1), UNKNOWN);
        }
        unchanged("set of no setting", x, before);
    }

    private static void promise3SetKind() {
        FlameGuards x = new FlameGuards();
        due("setKind(0, 2)", x.setKind(0, 2), 0);
        due("setKind(0, 1)", x.setKind(0, 1), 2);
        due("setKind(3, 0)", x.setKind(3, 0), 2);
        due("kind of 0", x.burner(0, 0), 1);
        due("kind of 3", x.burner(3, 0), 0);
        due("kind of 1", x.burner(1, 0), 0);
        x.turn(1, LOW);
        List<Integer> before = Seen.all(x);
        due("setKind(4, 3)", x.setKind(4, 3), UNKNOWN);
        for (int far : FAR) {
            due("setKind(" + far + ", 0)", x.setKind(far, 0), UNKNOWN);
            due("setKind(1, " + far + ")", x.setKind(1, far), BAD_VALUE);
        }
        due("setKind(1, 3)", x.setKind(1, 3), BAD_VALUE);
        due("setKind of a burner that is turned", x.setKind(1, 1), NOT_POSSIBLE);
        due("setKind as it is, turned", x.setKind(1, 0), NOT_POSSIBLE);
        due("setKind as it is", x.setKind(2, 1), NONE);
        unchanged("a refused setKind", x, before);
        Given.burn(x, 1, LOW);
        x.pass(3);
        x.turn(1, 0);
        x.setKind(1, 2);
        due("the joint stays", x.burner(1, 5), 166);
    }

    private static void promise4Plan() {
        FlameGuards x = new FlameGuards();
        List<Integer> before = Seen.all(x);
        due("plan(-1, 0)", x.plan(-1, 0), BAD_VALUE);
        due("plan(10000, 0)", x.plan(10000, 0), BAD_VALUE);
        due("plan(0, -1)", x.plan(0, -1), BAD_VALUE);
        due("plan(0, 10)", x.plan(0, 10), BAD_VALUE);
        for (int far : FAR) {
            due("plan(" + far + ", 1)", x.plan(far, 1), BAD_VALUE);
            due("plan(1, " + far + ")", x.plan(1, far), BAD_VALUE);
        }
        unchanged("a refused plan", x, before);
        promise4FullPlan();
    }

    private static void promise4FullPlan() {
        FlameGuards x = new FlameGuards();
        due("plan(9999, 9)", x.plan(9999, 9), 1);
        due("plan(0, 0)", x.plan(0, 0), 2);
        due("plan(0, 0) again", x.plan(0, 0), NONE);
        due("plan(0, 4) in its place", x.plan(0, 4), 2);
        due("the draft", x.count(2), 4);
        for (int tick = 10; tick > 0; tick--) {
            due("plan(" + tick + ", 1)", x.plan(tick, 1), 13 - tick);
        }
        List<Integer> before = Seen.all(x);
        due("a thirteenth", x.plan(11, 1), FULL);
        due("a thirteenth of a bad value", x.plan(11, 10), BAD_VALUE);
        due("the same of twelve", x.plan(10, 1), NONE);
        unchanged("plan on a full plan", x, before);
        due("another draft on a full plan", x.plan(10, 2), 12);
        due("the entry's draft", x.entry(10, 1), 2);
    }

    private static void promise5ReadPlan() {
        String[] texts = {"", ":", ",", "a", "0", "00:1", "01:1", "1", "1234", "12345:1", "1:", "1::", "1:a", "1:1:", "1:12",
            "1:1,", "1:1,,", "1:1,02:3", "0:0,9999:9,10000:1", "-1:2", "1 :2", "1:2 ", "1,2", "1;2", "\u0661:1", "1:\u0661",
            "/:1", "1:/", "5:1x", "1234:5,6", "100:/"};
        int[] faults = {0, 0, 0, 0, 1, 1, 1, 1, 4, 4, 2, 2, 2, 3, 3, 4, 4, 5, 15, 0, 1, 3, 1, 1, 0, 2, 0, 2, 3, 8, 4};
        due("faults", faults.length, texts.length);
        for (int i = 0; i < texts.length; i++) {
            FlameGuards x = new FlameGuards();
            x.plan(77, 7);
            Given.typeAll(x, texts[i]);
            List<Integer> before = Seen.all(x);
            due("readPlan of " + texts[i], x.readPlan(), -100 - faults[i]);
            unchanged("a refused readPlan", x, before);
        }
        promise5Entries();
        promise5TooMany();
    }

    private static void promise5Entries() {
        FlameGuards x = new FlameGuards();
        x.plan(77, 7);
        due("0:3,12:9,9999:0", Given.readPlan(x, "0:3,12:9,9999:0"), 3);
        due("the text stays", x.count(14), 15);
        due("the draft", x.count(2), 3);
        due("the old entry is gone", x.entry(3, 0), NONE);
        due("the last entry", x.entry(2, 0), 9999);
        due("again, as it is so already", x.readPlan(), 3);
        due("that is an act", x.count(13), 3);
        due("unordered, twice", Given.readPlan(x, "9:1,5:2,9:3,7:4,5:5"), 3);
        int[] ticks = {5, 7, 9};
        int[] drafts = {5, 4, 3};
        for (int place = 0; place < 3; place++) {
            due("tick of " + place, x.entry(place, 0), ticks[place]);
            due("draft of " + place, x.entry(place, 1), drafts[place]);
        }
        due("fewer entries", Given.readPlan(x, "4:4"), 1);
        due("an entry of the old plan is gone", x.plan(9, 3), 2);
        due("its place", x.entry(1, 0), 9);
        due("ten and two", Given.readPlan(x, "0:1,1:1,2:1,3:1,4:1,5:1,6:1,7:1,8:1,9:1,10:1,11:1,11:2,0:8"), 12);
        due("the last one counts", x.count(2), 8);
    }

    private static void promise5TooMany() {
        FlameGuards x = new FlameGuards();
        x.plan(77, 7);
        Given.typeAll(x, "0:0,1:0,2:0,3:0,4:0,5:0,6:0,7:0,8:0,9:0,10:0,11:0,12:0");
        List<Integer> before = Seen.all(x);
        due("thirteen", x.readPlan(), FULL);
        unchanged("a readPlan that is full", x, before);
        x.type(',');
        due("thirteen and a fault", x.readPlan(), -155);
    }

    private static void promise6Turn() {
        FlameGuards x = new FlameGuards();
        due("turn(2, 2)", x.turn(2, HIGH), 0);
        due("turn(2, 1)", x.turn(2, LOW), 2);
        due("tap of 2", x.burner(2, 1), 1);
        due("tap of 1", x.burner(1, 1), 0);
        List<Integer> before = Seen.all(x);
        due("turn as it is", x.turn(2, LOW), NONE);
        due("turn(4, 3)", x.turn(4, 3), UNKNOWN);
        due("turn(2, 3)", x.turn(2, 3), BAD_VALUE);
        for (int far : FAR) {
            due("turn(" + far + ", 1)", x.turn(far, 1), UNKNOWN);
            due("turn(2, " + far + ")", x.turn(2, far), BAD_VALUE);
        }
        unchanged("a refused turn", x, before);
        Given.burn(x, 2, LOW);
        x.turn(2, HIGH);
        due("the flame stays with another tap", x.burner(2, 4), 1);
        due("turned off", x.turn(2, 0), 2);
        due("the flame is out", x.burner(2, 4), 0);
        x.turn(2, LOW);
        due("and stays out", x.burner(2, 4), 0);
        due("no event by that", x.count(4) * 1000 + x.count(5) * 100 + x.count(6) * 10 + x.count(7), 1000);
        x.pass(1);
        due("a dark tick", x.burner(2, 9), 1);
        x.turn(2, 0);
        due("an act leaves the dark ticks", x.burner(2, 9), 1);
        x.pass(1);
        due("a tick with a closed valve ends them", x.burner(2, 9), 0);
    }

    private static void promise7Press() {
        FlameGuards x = new FlameGuards();
        due("press with the tap off", x.press(0, true), 0);
        due("knob", x.burner(0, 2), 1);
        due("press as it is", x.press(0, true), NONE);
        due("let go as it is", x.press(1, false), NONE);
        due("press(4, true)", x.press(4, true), UNKNOWN);
        for (int far : FAR) {
            due("press(" + far + ", false)", x.press(far, false), UNKNOWN);
        }
        due("acts so far", x.count(13), 1);
        x.turn(1, HIGH);
        due("press", x.press(1, true), 1);
        due("let go of a cold one", x.press(1, false), 0);
        Given.burn(x, 1, HIGH);
        x.pass(4);
        due("the joint", x.burner(1, 5), 291);
        due("let go too early", x.press(1, false), 0);
        due("the flame burns till the tick", x.burner(1, 4), 1);
        due("no event by that", x.pass(1), 0);
        due("the flame is out", x.burner(1, 4), 0);
        due("no gas by that", x.burner(1, 10), 0);
        Given.burn(x, 1, HIGH);
        x.pass(1);
        x.pass(1);
        due("warm enough", x.burner(1, 5) >= 300 ? 1 : 0, 1);
        due("let go of a warm one", x.press(1, false), 1);
        due("press of a locked one", Given.withLock().press(3, false), 0);
    }

    private static void promise8Igniter() {
        FlameGuards x = new FlameGuards();
        due("igniter(0, true)", x.igniter(0, true), 1);
        due("igniter(3, true)", x.igniter(3, true), 2);
        due("igniter(0, true) again", x.igniter(0, true), NONE);
        due("igniter(1, false)", x.igniter(1, false), NONE);
        due("igniter(4, true)", x.igniter(4, true), UNKNOWN);
        for (int far : FAR) {
            due("igniter(" + far + ", true)", x.igniter(far, true), UNKNOWN);
        }
        due("acts so far", x.count(13), 2);
        due("igniter(0, false)", x.igniter(0, false), 1);
        due("igniter of 0", x.burner(0, 3), 0);
        due("igniter of 3", x.burner(3, 3), 1);
        x.turn(3, LOW);
        due("no spark at a closed valve", x.pass(2), 0);
        due("no try", x.burner(3, 8), 0);
        x.press(3, true);
        due("lit by the igniter", x.pass(1), 1);
        due("flame", x.burner(3, 4), 1);
        due("its tries", x.burner(3, 8), 0);
        due("warms in that tick", x.burner(3, 5), 56);
        due("no gas by that", x.burner(3, 10), 0);
        x.plan(1, 2);
        x.turn(0, LOW);
        x.press(0, true);
        x.igniter(0, true);
        x.turn(1, LOW);
        x.press(1, true);
        x.igniter(1, true);
        x.turn(3, HIGH);
        due("lit in a draft as great as the strength", x.pass(1), 2);
        due("event", x.event(0, 0), 0);
        due("burner", x.event(0, 1), 1);
    }

    private static void promise9Light() {
        FlameGuards x = new FlameGuards();
        due("light(4)", x.light(4), UNKNOWN);
        for (int far : FAR) {
            due("light(" + far + ")", x.light(far), UNKNOWN);
        }
        due("light with the tap off", x.light(0), NOT_POSSIBLE);
        x.turn(0, LOW);
        due("light at a closed valve", x.light(0), NOT_POSSIBLE);
        x.press(0, true);
        x.plan(3, 3);
        x.pass(3);
        x.igniter(0, true);
        x.pass(2);
        List<Integer> before = Seen.state(x);
        due("light in a draft", x.light(0), 0);
        CHECK.isTrue("light in a draft changed something", before.equals(Seen.state(x)));
        due("its tries", x.burner(0, 8), 2);
        x.undo();
        due("that was an act", x.burner(0, 8), 2);
        x.turn(0, HIGH);
        due("light with a tap that bears the draft", x.light(0), 1);
        due("tries are 0 then", x.burner(0, 8), 0);
        due("event", x.event(0, 0), 0);
        due("event's burner", x.event(0, 1), 0);
        due("event's tick", x.event(0, 2), 5);
        int acts = x.count(13);
        due("light with a flame", x.light(0), NOT_POSSIBLE);
        due("acts behind a refused light", x.count(13), acts);
        x.turn(1, LOW);
        x.press(1, true);
        x.plan(5, 2);
        due("light in a draft as great as the strength", x.light(1), 1);

        FlameGuards y = new FlameGuards();
        y.set(2, 0);
        y.set(3, 50);
        y.turn(0, LOW);
        y.press(0, true);
        y.pass(25);
        due("gas", y.count(1), 50);
        due("light in as much gas as the limit", y.light(0), NOT_POSSIBLE);
        y.set(3, 51);
        due("light in less gas than the limit", y.light(0), 1);
    }

    private static void promise10Unlock() {
        FlameGuards x = Given.withLock();
        due("locked", x.burner(3, 7), 1);
        due("unlock(4)", x.unlock(4), UNKNOWN);
        for (int far : FAR) {
            due("unlock(" + far + ")", x.unlock(far), UNKNOWN);
        }
        List<Integer> before = Seen.all(x);
        due("unlock of one that is not locked", x.unlock(0), NOT_POSSIBLE);
        due("unlock with the tap on", x.unlock(3), NOT_POSSIBLE);
        unchanged("a refused unlock", x, before);
        x.turn(2, LOW);
        x.igniter(2, true);
        x.press(2, true);
        x.pass(1);
        due("two are locked", x.count(10), 2);
        x.turn(3, 0);
        due("turning off does not unlock", x.burner(3, 7), 1);
        due("tries stay till then", x.burner(3, 8), 1);
        due("unlock(3)", x.unlock(3), 1);
        due("tries are 0 then", x.burner(3, 8), 0);
        due("not locked", x.burner(3, 7), 0);
        x.turn(2, 0);
        due("unlock(2)", x.unlock(2), 0);
    }

    private static void promise11Pass() {
        FlameGuards x = new FlameGuards();
        List<Integer> before = Seen.all(x);
        due("pass(0)", x.pass(0), BAD_VALUE);
        due("pass(201)", x.pass(201), BAD_VALUE);
        for (int far : FAR) {
            due("pass(" + far + ")", x.pass(far), BAD_VALUE);
        }
        unchanged("a refused pass", x, before);
        promise11LastTick();
    }

    private static void promise11LastTick() {
        FlameGuards x = new FlameGuards();
        for (int i = 0; i < 499; i++) {
            x.pass(200);
        }
        due("the tick", x.count(0), 99800);
        due("one tick too many", x.pass(200), FULL);
        due("bad ahead of full", x.pass(201), BAD_VALUE);
        due("the last ticks", x.pass(199), 0);
        due("the last tick", x.count(0), 99999);
        due("pass at the last tick", x.pass(1), FULL);
        due("it stays", x.count(0), 99999);
    }

    private static void promise11Joints() {
        int[] kinds = {0, 1, 2};
        int[][] warming = {
            {63, 118, 166, 208, 245, 277, 305}, {88, 165, 232, 291, 343},
            {101, 185, 255, 313}, {142, 261, 360},
            {56, 106, 151, 191, 227, 260, 290, 317}, {91, 172, 245, 311, 370, 424, 472}};
        int[] heats = {500, 700, 600, 850, 550, 900};
        int[][] cooling = {
            {449, 404, 363}, {629, 566, 509}, {557, 517, 480}, {789, 732, 679}, {522, 495, 470}, {854, 811, 770}};
        for (int i = 0; i < 6; i++) {
            FlameGuards x = new FlameGuards();
            x.setKind(0, kinds[i / 2]);
            Given.burn(x, 0, i % 2 + 1);
            for (int temperature : warming[i]) {
                x.pass(1);
                due("warming of " + i, x.burner(0, 5), temperature);
            }
            x.pass(200);
            due("heat of " + i, x.burner(0, 5), heats[i]);
            x.turn(0, 0);
            for (int temperature : cooling[i]) {
                x.pass(1);
                due("cooling of " + i, x.burner(0, 5), temperature);
            }
            x.pass(200);
            due("cold again", x.burner(0, 5), 0);
        }
        FlameGuards x = new FlameGuards();
        Given.burn(x, 0, HIGH);
        x.pass(100);
        x.turn(0, LOW);
        int[] temperatures = {629, 566, 509, 500, 500};
        for (int temperature : temperatures) {
            x.pass(1);
            due("cooling to a lower heat", x.burner(0, 5), temperature);
        }
        due("with its flame", x.burner(0, 4), 1);
    }

    private static void promise11Drafts() {
        int[] strengths = {2, 4, 3, 6, 1, 5};
        for (int i = 0; i < 6; i++) {
            FlameGuards x = new FlameGuards();
            x.setKind(1, i / 2);
            Given.burn(x, 1, i % 2 + 1);
            x.pass(20);
            x.plan(20, strengths[i]);
            due("a draft as great as the strength", x.pass(3), 0);
            due("the flame", x.burner(1, 4), 1);
            x.plan(24, strengths[i] + 1);
            due("a tick ahead of the draft", x.pass(1), 0);
            due("the tick of the draft", x.pass(1), 1);
            due("no flame", x.burner(1, 4), 0);
            due("blown out", x.event(0, 0), 1);
            due("burner", x.event(0, 1), 1);
            due("tick", x.event(0, 2), 24);
            due("dark", x.burner(1, 9), 1);
        }
        FlameGuards x = new FlameGuards();
        Given.burn(x, 0, LOW);
        x.igniter(0, true);
        x.plan(2, 3);
        x.plan(3, 0);
        due("blown out, a try, then lit again", x.pass(4), 2);
        due("lit", x.event(0, 0), 0);
        due("in tick", x.event(0, 2), 3);
        due("blown out", x.event(1, 0), 1);
        due("in tick", x.event(1, 2), 2);
        due("tries", x.burner(0, 8), 0);
        due("gas of one tick", x.burner(0, 10), 2);
        due("most dark ticks", x.count(12), 1);

        FlameGuards y = new FlameGuards();
        Given.burn(y, 0, LOW);
        y.plan(1, 9);
        y.pass(1);
        y.press(0, false);
        due("a closed valve ahead of the draft: no event", y.pass(1), 0);
        due("no flame", y.burner(0, 4), 0);
    }

    private static void promise11Locks() {
        FlameGuards x = new FlameGuards();
        x.set(1, 3);
        Given.burn(x, 0, LOW);
        x.igniter(0, true);
        x.plan(10, 3);
        x.pass(10);
        due("blown out", x.pass(1), 1);
        due("a try in that tick", x.burner(0, 8), 1);
        due("a second try", x.pass(1), 0);
        due("the third try locks", x.pass(1), 1);
        due("locked", x.event(0, 0), 3);
        due("tick", x.event(0, 2), 12);
        due("tries", x.burner(0, 8), 3);
        due("the valve is closed", x.burner(0, 6), 0);
        due("gas of the ticks ahead", x.burner(0, 10), 4);
        due("no dark ticks", x.burner(0, 9), 0);
        due("it does not drop, nor try", x.pass(30), 0);
        due("tries", x.burner(0, 8), 3);

        FlameGuards y = new FlameGuards();
        y.turn(2, LOW);
        y.press(2, true);
        y.igniter(2, true);
        y.plan(0, 4);
        y.pass(4);
        y.set(1, 2);
        due("more tries than the most: locked", y.pass(1), 1);
        due("tries", y.burner(2, 8), 5);
        FlameGuards z = new FlameGuards();
        Given.burn(z, 2, LOW);
        z.set(1, 1);
        z.igniter(2, true);
        z.plan(0, 4);
        due("blown out and locked in one tick", z.pass(1), 2);
        due("locked", z.event(0, 0), 3);
        due("blown out", z.event(1, 0), 1);
    }

    private static void promise11Gas() {
        int[] flows = {2, 4, 4, 9, 6, 14};
        for (int i = 0; i < 6; i++) {
            FlameGuards x = new FlameGuards();
            x.set(2, 0);
            x.setKind(3, i / 2);
            x.turn(3, i % 2 + 1);
            x.press(3, true);
            x.pass(7);
            due("gas of " + i, x.count(1), 7 * flows[i]);
            due("gas from it", x.burner(3, 10), 7 * flows[i]);
            due("dark ticks", x.burner(3, 9), 7);
        }
        FlameGuards x = new FlameGuards();
        x.turn(3, HIGH);
        x.press(3, true);
        x.plan(1, 3);
        x.pass(1);
        due("14 less 5", x.count(1), 9);
        x.pass(1);
        due("and 14 less 5 and 3", x.count(1), 15);
        due("most gas, ahead of its becoming less", x.count(11), 23);
        x.press(3, false);
        x.pass(1);
        due("less 8", x.count(1), 7);
        x.pass(1);
        due("not less than 0", x.count(1), 0);
        due("most gas stays", x.count(11), 23);

        FlameGuards y = new FlameGuards();
        Given.burn(y, 0, LOW);
        y.pass(9);
        y.plan(9, 3);
        y.press(0, false);
        int[] left = {316, 284};
        due("blown out at once", y.pass(1), 1);
        due("the joint", y.burner(0, 5), left[0]);
        due("gas flows while it is warm", y.burner(0, 10), 2);
        due("it drops", y.pass(1), 1);
        due("the joint", y.burner(0, 5), left[1]);
        due("dropped", y.event(0, 0), 2);
        due("in tick", y.event(0, 2), 10);
        due("no gas in the tick of the drop", y.burner(0, 10), 2);
        due("it drops once", y.pass(5), 0);
    }

    private static void promise11OrderOfBurners() {
        FlameGuards x = new FlameGuards();
        x.set(2, 0);
        x.set(3, 50);
        x.turn(0, LOW);
        x.press(0, true);
        x.pass(24);
        x.turn(3, LOW);
        x.press(3, true);
        x.igniter(3, true);
        due("gas", x.count(1), 48);
        due("the gas at the beginning of the tick counts", x.pass(1), 1);
        due("flame", x.burner(3, 4), 1);
        x.turn(2, LOW);
        x.press(2, true);
        x.igniter(2, true);
        due("no spark in as much gas as the limit", x.pass(1), 0);
        due("no try", x.burner(2, 8), 0);
        due("gas of 0 and 2", x.count(1), 56);

        FlameGuards y = new FlameGuards();
        for (int burner = 3; burner >= 0; burner--) {
            y.turn(burner, LOW);
            y.press(burner, true);
            y.igniter(burner, true);
        }
        due("four are lit", y.pass(1), 4);
        for (int back = 0; back < 4; back++) {
            due("from 0 on", y.event(back, 1), 3 - back);
        }
    }

    private static void promise12Type() {
        FlameGuards x = new FlameGuards();
        for (int length = 1; length <= 60; length++) {
            due("type", x.type((char) (length * 1000)), length);
        }
        due("type at 60", x.type('1'), FULL);
        due("type at 60", x.type('\uffff'), FULL);
        due("length", x.count(14), 60);
        due("no act", x.count(13), 0);
        FlameGuards y = new FlameGuards();
        due("readPlan of what was typed", Given.readPlan(y, "40:6"), 1);
        due("tick", y.entry(0, 0), 40);
        y.type('1');
        due("typed behind", y.readPlan(), -104);
        due("a great character is no digit", Given.readPlan(y, "4:" + (char) ('5' + 256)), -102);
    }

    private static void promise13ClearText() {
        FlameGuards x = new FlameGuards();
        due("clearText of an empty text", x.clearText(), 0);
        Given.typeAll(x, "5:1");
        due("clearText", x.clearText(), 3);
        due("length", x.count(14), 0);
        due("readPlan then", x.readPlan(), -100);
        for (int i = 0; i < 61; i++) {
            x.type('x');
        }
        due("clearText of a full text", x.clearText(), 60);
        due("type then", x.type('1'), 1);
        due("no act", x.undo(), NONE);
    }

    private static void promise14Undo() {
        FlameGuards x = new FlameGuards();
        due("undo of nothing", x.undo(), NONE);
        for (int tap = 1; tap <= 6; tap++) {
            x.pass(tap);
            due("states", x.count(13), Math.min(tap, 4));
        }
        int[] ticks = {15, 10, 6, 3};
        for (int i = 0; i < 4; i++) {
            due("undo", x.undo(), 3 - i);
            due("the tick", x.count(0), ticks[i]);
        }
        due("undo of no more", x.undo(), NONE);
        due("the tick", x.count(0), 3);
        Given.typeAll(x, "1:1");
        x.readPlan();
        x.clearText();
        x.undo();
        due("the text is no part of the state", x.count(14), 0);
        x.pass(1);
        x.undo();
        x.turn(0, 1);
        due("an act behind an undo", x.undo(), 0);
        due("the tap", x.burner(0, 1), 0);
    }

    /** A run in which every act happens; behind each one undo() must bring all back. */
    private static void promise14EveryAct() {
        for (int act = 0; act < 22; act++) {
            FlameGuards x = behindActs(act);
            List<Integer> before = Seen.state(x);
            int answer = doAct(x, act);
            CHECK.isTrue("act " + act + " is refused: " + answer, answer >= 0);
            x.undo();
            CHECK.isTrue("undo of act " + act, Seen.state(x).equals(before));
            due("act " + act + " again", doAct(x, act), answer);
            CHECK.isTrue("act " + act + " again, the state", Seen.state(x).equals(Seen.state(behindActs(act + 1))));
        }
    }

    private static FlameGuards behindActs(int number) {
        FlameGuards x = new FlameGuards();
        Given.typeAll(x, "0:0,30:9");
        x.keep();
        for (int act = 0; act < number; act++) {
            doAct(x, act);
        }
        return x;
    }

    private static int doAct(FlameGuards x, int act) {
        switch (act) {
            case 0:
                return x.set(0, 250);
            case 1:
                return x.setKind(1, 1);
            case 2:
                return x.plan(20, 2);
            case 3:
                return x.readPlan();
            case 4:
                return x.turn(3, 2);
            case 5:
                return x.press(3, true);
            case 6:
                return x.igniter(3, true);
            case 7:
                return x.pass(3);
            case 8:
                return x.turn(2, 1);
            case 9:
                return x.press(2, true);
            case 10:
                return x.pass(2);
            case 11:
                return x.light(2);
            case 12:
                return x.pass(30);
            case 13:
                return x.pass(100);
            case 14:
                return x.turn(3, 0);
            case 15:
                return x.unlock(3);
            case 16:
                return x.set(1, 7);
            case 17:
                return x.set(2, 0);
            case 18:
                return x.set(3, 77);
            case 19:
                return x.light(2);
            case 20:
                return x.plan(30, 8);
            default:
                return x.restore();
        }
    }

    private static void promise15Keep() {
        FlameGuards x = new FlameGuards();
        due("keep", x.keep(), 0);
        due("no act", x.count(13), 0);
        x.pass(9);
        due("keep in place of that", x.keep(), 9);
        x.pass(5);
        due("restore", x.restore(), 9);
        x.undo();
        due("undo", x.count(0), 14);
        x.undo();
        due("undo leaves the snapshot", x.restore(), 9);
    }

    private static void promise16Restore() {
        FlameGuards x = new FlameGuards();
        List<Integer> before = Seen.all(x);
        due("restore of nothing", x.restore(), NONE);
        unchanged("a restore of nothing", x, before);
        promise16BringsBack();
        promise16Stays();
    }

    /** A snapshot of tick 15. */
    private static FlameGuards kept() {
        FlameGuards x = new FlameGuards();
        x.set(2, 1);
        x.plan(9, 9);
        Given.burn(x, 3, HIGH);
        x.igniter(1, true);
        x.pass(15);
        x.keep();
        return x;
    }

    private static FlameGuards keptAndChanged() {
        FlameGuards x = kept();
        Given.typeAll(x, "12");
        x.pass(40);
        x.turn(3, 0);
        x.setKind(3, 0);
        x.plan(3, 3);
        x.set(3, 60);
        x.igniter(1, false);
        return x;
    }

    private static void promise16BringsBack() {
        FlameGuards x = keptAndChanged();
        due("restore", x.restore(), 15);
        CHECK.isTrue("the state of the snapshot", Seen.state(x).equals(Seen.state(kept())));
        due("the text stays", x.count(14), 2);
        due("the history stays", x.count(13), 4);
        due("undo of a restore", x.undo(), 3);
        CHECK.isTrue("the state ahead of the restore", Seen.state(x).equals(Seen.state(keptAndChanged())));
        due("the snapshot stays", x.restore(), 15);
        CHECK.isTrue("the state of the snapshot again", Seen.state(x).equals(Seen.state(kept())));
    }

    private static void promise16Stays() {
        FlameGuards x = keptAndChanged();
        x.restore();
        x.pass(3);
        due("what comes behind does not change the snapshot", x.restore(), 15);
        CHECK.isTrue("the state of the snapshot once more", Seen.state(x).equals(Seen.state(kept())));
        due("restore of the same state is an act", x.restore(), 15);
        due("states", x.count(13), 4);
    }

    private static void promise17Burner() {
        FlameGuards x = new FlameGuards();
        due("burner(4, 12)", x.burner(4, 12), UNKNOWN);
        due("burner(0, 12)", x.burner(0, 12), BAD_VALUE);
        for (int far : FAR) {
            due("burner(" + far + ", 0)", x.burner(far, 0), UNKNOWN);
            due("burner(0, " + far + ")", x.burner(0, far), BAD_VALUE);
        }
        Given.burn(x, 2, HIGH);
        x.igniter(2, true);
        x.plan(3, 7);
        x.pass(5);
        int[] answers = {1, 2, 1, 1, 0, 310, 1, 0, 2, 2, 18, 6};
        for (int what = 0; what < 12; what++) {
            due("burner(2, " + what + ")", x.burner(2, what), answers[what]);
        }
        int[] strengths = {2, 4, 3, 6, 1, 5};
        for (int i = 0; i < 6; i++) {
            FlameGuards y = new FlameGuards();
            y.setKind(0, i / 2);
            due("strength with the tap off", y.burner(0, 11), 0);
            y.turn(0, i % 2 + 1);
            due("strength", y.burner(0, 11), strengths[i]);
        }
        due("locked", Given.withLock().burner(3, 7), 1);
        FlameGuards z = new FlameGuards();
        Given.burn(z, 0, LOW);
        z.pass(7);
        z.press(0, false);
        z.set(0, 306);
        due("a joint at 305, the threshold 306", z.burner(0, 6), 0);
        z.set(0, 305);
        due("a joint at the threshold", z.burner(0, 6), 1);
    }

    private static void promise18StaysOpen() {
        FlameGuards x = new FlameGuards();
        due("staysOpen(4)", x.staysOpen(4), UNKNOWN);
        for (int far : FAR) {
            due("staysOpen(" + far + ")", x.staysOpen(far), UNKNOWN);
        }
        due("the tap off", x.staysOpen(0), NOT_POSSIBLE);
        Given.burn(x, 0, HIGH);
        due("cold, though pressed", x.staysOpen(0), 0);
        x.pass(40);
        due("from 700", x.staysOpen(0), 8);
        x.set(0, 298);
        due("down to 298, which is not below", x.staysOpen(0), 9);
        x.set(0, 450);
        due("below 450", x.staysOpen(0), 5);
        x.turn(0, 0);
        due("turned off", x.staysOpen(0), NOT_POSSIBLE);
        due("locked", Given.withLock().staysOpen(3), NOT_POSSIBLE);
        FlameGuards y = new FlameGuards();
        Given.burn(y, 3, HIGH);
        y.pass(150);
        y.set(0, 100);
        List<Integer> before = Seen.all(y);
        int told = y.staysOpen(3);
        unchanged("staysOpen", y, before);
        y.plan(150, 9);
        y.press(3, false);
        y.pass(told - 1);
        due("open till then", y.burner(3, 6), 1);
        due("dropped then", y.pass(1), 1);
    }

    private static void promise19ToPress() {
        FlameGuards x = new FlameGuards();
        due("toPress(4, 0)", x.toPress(4, 0), UNKNOWN);
        for (int far : FAR) {
            due("toPress(" + far + ", 1)", x.toPress(far, 1), UNKNOWN);
            due("toPress(0, " + far + ")", x.toPress(0, far), BAD_VALUE);
        }
        due("toPress(0, 0)", x.toPress(0, 0), BAD_VALUE);
        due("toPress(0, 3)", x.toPress(0, 3), BAD_VALUE);
        int[] ticks = {7, 5, 4, 3, 8, 4};
        for (int i = 0; i < 6; i++) {
            x.setKind(0, i / 2);
            due("toPress of " + i, x.toPress(0, i % 2 + 1), ticks[i]);
        }
        x.setKind(0, 0);
        x.set(0, 305);
        due("at the threshold", x.toPress(0, LOW), 7);
        x.set(0, 306);
        due("not yet at the threshold", x.toPress(0, LOW), 8);
        Given.burn(x, 0, HIGH);
        x.pass(60);
        due("already", x.toPress(0, LOW), 0);
        due("of a locked one", Given.withLock().toPress(3, HIGH), 4);
        due("whatever its tap", Given.withLock().toPress(3, LOW), 8);
    }

    private static void promise20ClearIn() {
        FlameGuards x = new FlameGuards();
        due("clear", x.clearIn(), 0);
        x.turn(0, LOW);
        x.press(0, true);
        due("a pressed one without a flame", x.clearIn(), NONE);
        due("it changes nothing", x.count(0) + x.count(1) + x.count(4), 0);
        x.igniter(0, true);
        due("its igniter lights it", x.clearIn(), 1);
        x.pass(1);
        due("a flame is clear", x.clearIn(), 0);

        FlameGuards y = new FlameGuards();
        y.turn(3, HIGH);
        y.press(3, true);
        y.set(2, 0);
        y.pass(36);
        y.turn(3, 0);
        due("gas that does not leave", y.clearIn(), NONE);
        y.set(2, 1);
        due("504 ticks are too many", y.clearIn(), NONE);
        y.pass(3);
        due("501 ticks are too many", y.clearIn(), NONE);
        y.pass(1);
        due("500 ticks", y.clearIn(), 500);
        y.plan(40, 0);
        y.plan(60, 9);
        due("a draft to come", y.clearIn(), 68);
        List<Integer> before = Seen.all(y);
        y.clearIn();
        unchanged("clearIn", y, before);

        FlameGuards z = new FlameGuards();
        Given.burn(z, 0, HIGH);
        z.pass(40);
        z.press(0, false);
        z.set(2, 0);
        z.plan(40, 5);
        z.plan(41, 1);
        due("it flows while the joint is warm", z.pass(1), 1);
        int told = z.clearIn();
        z.pass(told - 1);
        due("not yet", z.clearIn(), 1);
        z.pass(1);
        due("then", z.clearIn(), 0);
        due("no gas then", z.count(1), 0);
    }

    private static void promise21BlownIn() {
        FlameGuards x = new FlameGuards();
        due("blownIn(4)", x.blownIn(4), UNKNOWN);
        for (int far : FAR) {
            due("blownIn(" + far + ")", x.blownIn(far), UNKNOWN);
        }
        due("the tap off", x.blownIn(0), NOT_POSSIBLE);
        x.turn(0, LOW);
        due("no draft", x.blownIn(0), NONE);
        x.plan(3, 2);
        due("a draft as great as the strength", x.blownIn(0), NONE);
        x.plan(501, 3);
        due("in 501 ticks", x.blownIn(0), NONE);
        x.pass(1);
        due("in 500 ticks", x.blownIn(0), 500);
        x.plan(9, 9);
        due("in 8 ticks", x.blownIn(0), 8);
        x.turn(0, HIGH);
        x.plan(9, 4);
        due("the tap as it is", x.blownIn(0), NONE);
        x.plan(9, 5);
        due("the tap as it is", x.blownIn(0), 8);
        x.pass(8);
        due("in the next tick", x.blownIn(0), 0);
        x.pass(50);
        due("the draft holds", x.blownIn(0), 0);
        x.plan(10, 0);
        due("a draft that is past", x.blownIn(0), NONE);
    }

    private static void promise22Entry() {
        FlameGuards x = new FlameGuards();
        x.plan(50, 5);
        x.plan(7, 1);
        x.plan(9999, 2);
        x.plan(20, 0);
        int[] ticks = {7, 20, 50, 9999};
        int[] drafts = {1, 0, 5, 2};
        for (int place = 0; place < 4; place++) {
            due("tick of " + place, x.entry(place, 0), ticks[place]);
            due("draft of " + place, x.entry(place, 1), drafts[place]);
        }
        due("entry(4, 0)", x.entry(4, 0), NONE);
        due("entry(4, 2)", x.entry(4, 2), BAD_VALUE);
        due("entry far away", x.entry(Integer.MAX_VALUE, 1), NONE);
        due("entry(0, 2)", x.entry(0, 2), BAD_VALUE);
        due("entry(-1, 0)", x.entry(-1, 0), BAD_VALUE);
        due("entry(min, 0)", x.entry(Integer.MIN_VALUE, 0), BAD_VALUE);
        for (int far : FAR) {
            due("entry(0, " + far + ")", x.entry(0, far), BAD_VALUE);
        }
    }

    private static void promise23Event() {
        FlameGuards x = new FlameGuards();
        for (int back = 0; back < 12; back++) {
            due("no event", x.event(back, 0), NONE);
        }
        due("event(0, 3)", x.event(0, 3), BAD_VALUE);
        due("event(-1, 0)", x.event(-1, 0), BAD_VALUE);
        due("event(min, 0)", x.event(Integer.MIN_VALUE, 0), BAD_VALUE);
        due("event(max, 0)", x.event(Integer.MAX_VALUE, 0), NONE);
        for (int far : FAR) {
            due("event(0, " + far + ")", x.event(0, far), BAD_VALUE);
        }
        for (int i = 0; i < 11; i++) {
            Given.burn(x, i % 3, LOW);
            x.turn(i % 3, 0);
            x.pass(1);
            due("known", x.event(Math.min(i, 9), 0), 0);
            due("known", x.event(Math.min(i, 9) + 1, 0), NONE);
        }
        for (int back = 0; back < 10; back++) {
            due("burner", x.event(back, 1), (10 - back) % 3);
            due("tick", x.event(back, 2), 10 - back);
        }
        due("all are counted", x.count(4), 11);
    }

    private static void promise24Count() {
        FlameGuards x = new FlameGuards();
        due("count(15)", x.count(15), BAD_VALUE);
        for (int far : FAR) {
            due("count(" + far + ")", x.count(far), BAD_VALUE);
        }
        x.set(0, 400);
        x.set(1, 2);
        x.set(2, 1);
        x.plan(10, 4);
        x.plan(14, 0);
        Given.burn(x, 0, HIGH);
        Given.burn(x, 1, LOW);
        Given.burn(x, 2, LOW);
        x.igniter(1, true);
        x.turn(3, LOW);
        x.pass(9);
        x.press(2, false);
        Given.typeAll(x, "1:2");
        x.pass(6);
        // Burner 1 is blown out and locked, 2 is blown out and drops, 0 burns on, 3 stays cold.
        int[] answers = {15, 0, 0, 2, 3, 2, 1, 1, 1, 1, 1, 6, 3, 4, 3};
        for (int what = 0; what < 15; what++) {
            due("count(" + what + ")", x.count(what), answers[what]);
        }
        x.undo();
        due("tick", x.count(0), 9);
        due("draft", x.count(2), 0);
        due("the draft of the next tick", x.pass(1) * 10 + x.count(2), 4);
        due("flames", x.count(8), 3);
        due("states", x.count(13), 4);
    }

    private static void promise25Setting() {
        FlameGuards x = new FlameGuards();
        due("setting(4)", x.setting(4), UNKNOWN);
        for (int far : FAR) {
            due("setting(" + far + ")", x.setting(far), UNKNOWN);
        }
        int[] values = {120, 20, 0, 999};
        for (int which = 0; which < 4; which++) {
            x.set(which, values[which]);
        }
        for (int which = 0; which < 4; which++) {
            due("setting(" + which + ")", x.setting(which), values[which]);
        }
        passOneByOne(x, 5);
        due("no more than four states", x.count(13), 4);
        due("it stays", x.setting(3), 999);
    }
}
