import java.util.List;

/** The sentences of the terms on burners, settings and drafts. */
final class BurnerSentences {
    private static final String TERMS = "Terms";

    private BurnerSentences() {
    }

    static void addTo(List<Sentence> all) {
        addBurners(all);
        addJoints(all);
        addSettings(all);
        addDrafts(all);
    }

    private static void addBurners(List<Sentence> all) {
        all.add(new Sentence("What it is", "An object is used for at most 512 calls after it has been made",
                BurnerSentences::manyCalls)
                .broken("counts[event]++", "counts[event] = Math.min(counts[event] + 1, 100)")
                .broken("tick++;", "tick = Math.min(tick + 1, 200);"));
        all.add(new Sentence(TERMS, "All quotients are rounded down.", BurnerSentences::quotients)
                .broken("number / divisor : 0", "(number + divisor - 1) / divisor : 0")
                .broken("number / divisor : 0", "(number + divisor / 2) / divisor : 0"));
        all.add(new Sentence(TERMS, "There are 4 burners, numbered from 0.", BurnerSentences::fourBurners)
                .broken("index >= 0 && index < burners.length ? burners[index]",
                        "index > 0 && index < burners.length ? burners[index]")
                .broken("index < burners.length ? burners[index]", "index < burners.length - 1 ? burners[index]")
                .broken("return index >= 0 && index < burners.length ? burners[index] : null",
                        "return burners[Math.max(0, Math.min(index, burners.length - 1))]")
                .broken("FIRST_KINDS = {0, 0, 1, 2}", "FIRST_KINDS = {0, 0, 1, 2, 0}"));
        all.add(new Sentence(TERMS, "at first 0 and 1 are small, 2 is large, 3 is wide", BurnerSentences::firstKinds)
                .broken("FIRST_KINDS = {0, 0, 1, 2}", "FIRST_KINDS = {1, 0, 1, 2}")
                .broken("FIRST_KINDS = {0, 0, 1, 2}", "FIRST_KINDS = {0, 1, 1, 2}")
                .broken("FIRST_KINDS = {0, 0, 1, 2}", "FIRST_KINDS = {0, 0, 0, 2}")
                .broken("FIRST_KINDS = {0, 0, 1, 2}", "FIRST_KINDS = {0, 0, 1, 1}"));
        all.add(new Sentence(TERMS, "a tap (0 off, 1 low, 2 high; at first off)", BurnerSentences::firstTaps)
                .broken("        int tap;", "        int tap = 1;"));
        all.add(new Sentence(TERMS, "a joint with a temperature (all off, none and 0 at first)", BurnerSentences::allOff)
                .broken("boolean pressed;", "boolean pressed = true;")
                .broken("boolean igniter;", "boolean igniter = true;")
                .broken("boolean flame;", "boolean flame = true;")
                .broken("int temperature;", "int temperature = 1;"));
        all.add(new Sentence(TERMS, "It is locked or not, and counts its tries (0 at first).", BurnerSentences::noTries)
                .broken("boolean locked;", "boolean locked = true;")
                .broken("int tries;", "int tries = 1;"));
    }

    private static void addJoints(List<Sentence> all) {
        all.add(new Sentence(TERMS, "warms to T + (heat - T) / warming + 1, but not above the heat, if T is less than"
                + " the heat of the flame", BurnerSentences::warming)
                .broken("elementAt(WARMING, kind)) + 1", "elementAt(WARMING, kind))")
                .broken("elementAt(WARMING, kind)) + 1", "elementAt(WARMING, kind)) + 2")
                .broken("Math.min(heat, before", "Math.min(heat - 1, before")
                .broken("return before;", "return before + 1;"));
        all.add(new Sentence(TERMS, "it cools to T - T / cooling - 1, but not below the heat of the flame, if T is more"
                + " than that.", BurnerSentences::coolingToAFlame)
                .broken("Math.max(heat, before - ", "Math.max(0, before - ")
                .broken("Math.max(heat, before - ", "Math.max(heat + 1, before - ")
                .broken("before > heat", "before > heat + 1")
                .broken("elementAt(COOLING, kind)) - 1", "elementAt(COOLING, kind))"));
        all.add(new Sentence(TERMS, "Without a flame it cools likewise, but not below 0.", BurnerSentences::coolingToNothing)
                .broken("flame ? heatAt(tap) : 0", "flame ? heatAt(tap) : 1")
                .broken("flame ? heatAt(tap) : 0", "flame ? heatAt(tap) : -1")
                .broken("elementAt(COOLING, kind)) - 1", "elementAt(COOLING, kind))"));
        all.add(new Sentence(TERMS, "The valve of a burner is open if it is not locked, the tap is not off, and the knob is"
                + " pressed or the temperature is the threshold or more.", BurnerSentences::valve)
                .broken("!locked && tap", "tap")
                .broken("!locked && tap != OFF && (", "!locked && (")
                .broken("(pressed || temperature >= threshold)", "(temperature >= threshold)")
                .broken("(pressed || temperature >= threshold)", "(pressed)")
                .broken("(pressed || temperature >= threshold)", "(pressed || temperature > threshold)")
                .broken("(pressed || temperature >= threshold)", "(pressed || temperature >= threshold - 1)"));
    }

    private static void addSettings(List<Sentence> all) {
        all.add(new Sentence(TERMS, "0 the threshold (100 to 450; 300)", BurnerSentences::thresholds)
                .broken("LEAST = {100,", "LEAST = {99,")
                .broken("LEAST = {100,", "LEAST = {101,")
                .broken("MOST = {450,", "MOST = {449,")
                .broken("MOST = {450,", "MOST = {451,")
                .broken("FIRST = {300,", "FIRST = {301,"));
        all.add(new Sentence(TERMS, "1 the most tries (1 to 20; 5)", BurnerSentences::mostTries)
                .broken("LEAST = {100, 1,", "LEAST = {100, 0,")
                .broken("LEAST = {100, 1,", "LEAST = {100, 2,")
                .broken("MOST = {450, 20,", "MOST = {450, 19,")
                .broken("MOST = {450, 20,", "MOST = {450, 21,")
                .broken("FIRST = {300, 5,", "FIRST = {300, 6,"));
        all.add(new Sentence(TERMS, "2 the airing (0 to 50; 5)", BurnerSentences::airings)
                .broken("LEAST = {100, 1, 0,", "LEAST = {100, 1, -1,")
                .broken("LEAST = {100, 1, 0,", "LEAST = {100, 1, 1,")
                .broken("MOST = {450, 20, 50,", "MOST = {450, 20, 49,")
                .broken("MOST = {450, 20, 50,", "MOST = {450, 20, 51,")
                .broken("FIRST = {300, 5, 5,", "FIRST = {300, 5, 4,"));
        all.add(new Sentence(TERMS, "3 the limit (50 to 1000; 300)", BurnerSentences::limits)
                .broken("LEAST = {100, 1, 0, 50}", "LEAST = {100, 1, 0, 49}")
                .broken("LEAST = {100, 1, 0, 50}", "LEAST = {100, 1, 0, 51}")
                .broken("MOST = {450, 20, 50, 1000}", "MOST = {450, 20, 50, 999}")
                .broken("MOST = {450, 20, 50, 1000}", "MOST = {450, 20, 50, 1001}")
                .broken("FIRST = {300, 5, 5, 300}", "FIRST = {300, 5, 5, 299}"));
    }

    private static void addDrafts(List<Sentence> all) {
        all.add(new Sentence(TERMS, "There is a draft in each tick (0 to 9), as the plan tells", BurnerSentences::draftRange)
                .broken("GREATEST_DRAFT = 9", "GREATEST_DRAFT = 8")
                .broken("GREATEST_DRAFT = 9", "GREATEST_DRAFT = 10")
                .broken("isWithin(draft, 0, GREATEST_DRAFT)", "isWithin(draft, -1, GREATEST_DRAFT)")
                .broken("isWithin(draft, 0, GREATEST_DRAFT)", "isWithin(draft, 1, GREATEST_DRAFT)"));
        all.add(new Sentence(TERMS, "the plan has at most 12 entries", BurnerSentences::twelveEntries)
                .broken("MOST_ENTRIES = 12", "MOST_ENTRIES = 11")
                .broken("MOST_ENTRIES = 12", "MOST_ENTRIES = 13"));
        all.add(new Sentence(TERMS, "each with a tick (0 to 9999) and a draft", BurnerSentences::plannedTicks)
                .broken("LAST_PLANNED_TICK = 9999", "LAST_PLANNED_TICK = 9998")
                .broken("LAST_PLANNED_TICK = 9999", "LAST_PLANNED_TICK = 10000")
                .broken("isWithin(tick, 0, LAST_PLANNED_TICK)", "isWithin(tick, -1, LAST_PLANNED_TICK)")
                .broken("isWithin(tick, 0, LAST_PLANNED_TICK)", "isWithin(tick, 1, LAST_PLANNED_TICK)"));
        all.add(new Sentence(TERMS, "the one with the greatest tick that is not greater than the tick holds",
                BurnerSentences::draftThatHolds)
                .broken("ticks[i] <= tick", "ticks[i] < tick")
                .broken("ticks[i] <= tick", "ticks[i] <= tick + 1")
                .broken("ticks[i] <= tick", "ticks[i] == tick")
                .broken("draft = values[i];", "draft = Math.max(draft, values[i]);")
                .brokenIn("int draftIn(int tick) {", "i < size", "i < size - 1"));
        all.add(new Sentence(TERMS, "it is 0 without one.", BurnerSentences::noDraft)
                .broken("int draft = 0;", "int draft = 1;")
                .broken("int draft = 0;", "int draft = size > 0 ? values[0] : 0;"));
    }

    /** Behind 511 calls: 127 times lit, 254 ticks, a snapshot of the first tick, a full history. */
    private static FlameGuards behindManyCalls() {
        FlameGuards x = new FlameGuards();
        x.press(0, true);
        x.keep();
        x.type('1');
        for (int i = 0; i < 127; i++) {
            x.turn(0, Given.LOW);
            x.light(0);
            x.pass(2);
            x.turn(0, Given.OFF);
        }
        return x;
    }

    private static void manyCalls(Check c) {
        c.due("the 512th call, the tick", behindManyCalls().count(0), 254);
        c.due("the 512th call, lit so far", behindManyCalls().count(4), 127);
        c.due("the 512th call, the tenth event", behindManyCalls().event(9, 2), 234);
        c.due("the 512th call, an undo", behindManyCalls().undo(), 3);
        c.due("the 512th call, a restore", behindManyCalls().restore(), 0);
        c.due("the 512th call, ticks", behindManyCalls().pass(200), 0);
        c.due("the 512th call, a character", behindManyCalls().type('2'), 2);
    }

    private static void quotients(Check c) {
        FlameGuards x = Given.burning(Given.SMALL, Given.LOW);
        // 500 / 8 is 62.5, 437 / 8 is 54.6, 382 / 8 is 47.75
        for (int due : new int[] {63, 118, 166}) {
            x.pass(1);
            c.due("warming", x.burner(0, 5), due);
        }
        Given.pass(x, 100);
        x.turn(0, Given.OFF);
        // 500 / 10 is whole, 449 / 10 is 44.9, 404 / 10 is 40.4, 363 / 10 is 36.3, 326 / 10 is 32.6
        for (int due : new int[] {449, 404, 363, 326, 293}) {
            x.pass(1);
            c.due("cooling", x.burner(0, 5), due);
        }
    }

    private static void fourBurners(Check c) {
        for (int burner = 0; burner < 4; burner++) {
            FlameGuards x = new FlameGuards();
            c.due("a burner's tap", x.turn(burner, Given.LOW), 0);
            c.due("a burner's knob", x.press(burner, true), 1);
            c.due("a burner's flame", x.light(burner), 1);
            c.due("a burner's flame", x.burner(burner, 4), 1);
            c.due("flames", x.count(8), 1);
        }
        for (int burner : new int[] {Integer.MIN_VALUE, -1, 4, Integer.MAX_VALUE}) {
            c.due("no burner", new FlameGuards().burner(burner, 0), FlameGuards.UNKNOWN);
        }
    }

    private static void firstKinds(Check c) {
        int[] kinds = {Given.SMALL, Given.SMALL, Given.LARGE, Given.WIDE};
        for (int burner = 0; burner < 4; burner++) {
            c.due("kind of " + burner, new FlameGuards().burner(burner, 0), kinds[burner]);
        }
    }

    private static void firstTaps(Check c) {
        for (int burner = 0; burner < 4; burner++) {
            FlameGuards x = new FlameGuards();
            c.due("tap of " + burner, x.burner(burner, 1), Given.OFF);
            c.due("turned off already", x.turn(burner, Given.OFF), FlameGuards.NONE);
            c.due("turned high", x.turn(burner, Given.HIGH), Given.OFF);
        }
    }

    private static void allOff(Check c) {
        FlameGuards x = new FlameGuards();
        for (int burner = 0; burner < 4; burner++) {
            for (int what = 2; what <= 5; what++) {
                c.due("burner(" + burner + ", " + what + ")", x.burner(burner, what), 0);
            }
        }
    }

    private static void noTries(Check c) {
        FlameGuards x = new FlameGuards();
        for (int burner = 0; burner < 4; burner++) {
            c.due("lock of " + burner, x.burner(burner, 7), 0);
            c.due("tries of " + burner, x.burner(burner, 8), 0);
        }
    }

    /** From 0 to the heat, and on at the heat. */
    private static void warming(Check c) {
        for (int i = 0; i < 6; i++) {
            FlameGuards x = Given.burning(i / 2, i % 2 + 1);
            int due = 0;
            for (int tick = 0; tick < 60; tick++) {
                due = PlainModel.nextHeat(i / 2, due, Given.HEATS[i]);
                x.pass(1);
                c.due("warming", x.burner(0, 5), due);
            }
            c.due("it reached the heat", due, Given.HEATS[i]);
        }
    }

    /** From the greater heat down to the lesser one, and from 1 above a heat. */
    private static void coolingToAFlame(Check c) {
        for (int kind = 0; kind <= Given.WIDE; kind++) {
            FlameGuards x = Given.burning(kind, Given.HIGH);
            x.pass(100);
            x.turn(0, Given.LOW);
            int due = Given.HEATS[kind * 2 + 1];
            for (int tick = 0; tick < 20; tick++) {
                due = PlainModel.nextHeat(kind, due, Given.HEATS[kind * 2]);
                x.pass(1);
                c.due("cooling", x.burner(0, 5), due);
            }
            c.due("it reached the lesser heat", due, Given.HEATS[kind * 2]);
        }
        FlameGuards x = Given.burning(Given.LARGE, Given.HIGH);
        x.pass(9);
        x.turn(0, Given.OFF);
        x.setKind(0, Given.SMALL);
        x.pass(3);
        c.due("1 above the heat", x.burner(0, 5), 501);
        x.turn(0, Given.LOW);
        c.due("lit", x.light(0), 1);
        x.pass(1);
        c.due("down by 1", x.burner(0, 5), 500);
        x.pass(1);
        c.due("no further", x.burner(0, 5), 500);
    }

    private static void coolingToNothing(Check c) {
        for (int i = 0; i < 6; i++) {
            FlameGuards x = Given.burning(i / 2, i % 2 + 1);
            x.pass(1);
            int due = x.burner(0, 5);
            x.turn(0, Given.OFF);
            for (int tick = 0; tick < 60; tick++) {
                due = PlainModel.nextHeat(i / 2, due, -1);
                x.pass(1);
                c.due("cooling", x.burner(0, 5), due);
            }
            c.due("it reached 0", due, 0);
            c.due("a joint that never was warm", x.burner(1, 5), 0);
        }
    }

    private static void valve(Check c) {
        FlameGuards x = new FlameGuards();
        c.due("tap off", x.burner(0, 6), 0);
        x.press(0, true);
        c.due("tap off, pressed", x.burner(0, 6), 0);
        x.turn(0, Given.LOW);
        c.due("cold, pressed", x.burner(0, 6), 1);
        x.light(0);
        x.pass(7);
        x.press(0, false);
        c.due("temperature", x.burner(0, 5), 305);
        x.set(0, 304);
        c.due("above the threshold", x.burner(0, 6), 1);
        x.set(0, 305);
        c.due("at the threshold", x.burner(0, 6), 1);
        x.turn(0, Given.OFF);
        c.due("tap off, warm", x.burner(0, 6), 0);
        x.turn(0, Given.HIGH);
        c.due("tap high, warm", x.burner(0, 6), 1);
        x.set(0, 306);
        c.due("below the threshold", x.burner(0, 6), 0);
        x.press(0, true);
        c.due("below the threshold, pressed", x.burner(0, 6), 1);
        c.due("locked, pressed", Given.withLock().burner(3, 6), 0);

        FlameGuards y = new FlameGuards();
        y.set(1, 1);
        Given.burn(y, 0, Given.LOW);
        y.pass(30);
        y.igniter(0, true);
        y.plan(0, 9);
        y.pass(1);
        y.press(0, false);
        c.isTrue("still warm", y.burner(0, 5) >= 300);
        c.due("locked, warm", y.burner(0, 6), 0);
    }

    private static void range(Check c, int which, int least, int most, int first) {
        c.due("at first", new FlameGuards().setting(which), first);
        for (int value : new int[] {Integer.MIN_VALUE, least - 1, most + 1, Integer.MAX_VALUE}) {
            Refused.due(c, "set(" + which + ", " + value + ")", Given::rich, x -> x.set(which, value),
                    FlameGuards.BAD_VALUE);
        }
        FlameGuards x = new FlameGuards();
        c.due("set to the least", x.set(which, least), first);
        c.due("the least", x.setting(which), least);
        c.due("set to the most", x.set(which, most), least);
        c.due("the most", x.setting(which), most);
    }

    private static void thresholds(Check c) {
        range(c, 0, 100, 450, 300);
        FlameGuards x = Given.burning(Given.SMALL, Given.LOW);
        x.pass(100);
        x.set(0, 100);
        c.due("from 500 to below 100", x.staysOpen(0), 15);
        x.set(0, 450);
        c.due("from 500 to below 450", x.staysOpen(0), 1);
    }

    private static void mostTries(Check c) {
        range(c, 1, 1, 20, 5);
        c.due("locked by one try", Given.withLock().burner(3, 8), 1);
        FlameGuards x = new FlameGuards();
        x.set(1, 20);
        x.set(3, 1000);
        x.plan(0, 9);
        x.igniter(0, true);
        Given.open(x, 0, Given.LOW);
        c.due("19 tries do not lock", x.pass(19), 0);
        c.due("19 tries", x.burner(0, 8), 19);
        c.due("20 tries lock", x.pass(1), 1);
    }

    private static void airings(Check c) {
        range(c, 2, 0, 50, 5);
        FlameGuards x = Given.withGas(60);
        x.pass(200);
        c.due("gas without an airing", x.count(1), 60);
        x.set(2, 50);
        x.pass(1);
        c.due("gas less 50", x.count(1), 10);
    }

    private static void limits(Check c) {
        range(c, 3, 50, 1000, 300);
        int[] limits = {50, 1000};
        for (int limit : limits) {
            for (int gas = limit - 1; gas <= limit; gas++) {
                FlameGuards x = Given.withGas(gas);
                x.set(3, limit);
                Given.open(x, 0, Given.LOW);
                c.due("gas", x.count(1), gas);
                c.due("light", x.light(0), gas < limit ? 1 : FlameGuards.NOT_POSSIBLE);
            }
        }
    }

    private static void draftRange(Check c) {
        for (int draft = 0; draft <= 9; draft++) {
            FlameGuards x = new FlameGuards();
            c.due("an entry", x.plan(0, draft), 1);
            c.due("the draft", x.count(2), draft);
        }
        for (int draft : new int[] {-1, 10}) {
            Refused.due(c, "plan(0, " + draft + ")", Given::rich, x -> x.plan(0, draft), FlameGuards.BAD_VALUE);
        }
    }

    private static void twelveEntries(Check c) {
        FlameGuards x = new FlameGuards();
        for (int size = 1; size <= 12; size++) {
            c.due("an entry", x.plan(size * 5, 1), size);
        }
        c.due("entries", x.count(3), 12);
        c.due("the twelfth", x.entry(11, 0), 60);
        Refused.due(c, "a thirteenth behind", Given::withFullPlan, y -> y.plan(121, 1), FlameGuards.FULL);
        Refused.due(c, "a thirteenth in front", Given::withFullPlan, y -> y.plan(0, 1), FlameGuards.FULL);
        Refused.due(c, "a thirteenth between", Given::withFullPlan, y -> y.plan(55, 1), FlameGuards.FULL);
    }

    private static void plannedTicks(Check c) {
        FlameGuards x = new FlameGuards();
        c.due("the first tick", x.plan(0, 4), 1);
        c.due("the last tick", x.plan(9999, 7), 2);
        c.due("the first tick", x.entry(0, 0), 0);
        c.due("the last tick", x.entry(1, 0), 9999);
        for (int tick : new int[] {-1, 10000}) {
            Refused.due(c, "plan(" + tick + ", 1)", Given::rich, y -> y.plan(tick, 1), FlameGuards.BAD_VALUE);
        }
    }

    private static void draftThatHolds(Check c) {
        FlameGuards x = new FlameGuards();
        x.plan(5, 3);
        x.plan(2, 8);
        x.plan(4, 1);
        for (int due : new int[] {0, 0, 8, 8, 1, 3, 3, 3}) {
            c.due("draft in " + x.count(0), x.count(2), due);
            x.pass(1);
        }
        FlameGuards y = new FlameGuards();
        y.plan(9999, 6);
        y.plan(9998, 2);
        Given.pass(y, 9998);
        c.due("draft in 9998", y.count(2), 2);
        y.pass(1);
        c.due("draft in 9999", y.count(2), 6);
        y.pass(1);
        c.due("draft in 10000", y.count(2), 6);
        Given.pass(y, 80000);
        c.due("draft in 90000", y.count(2), 6);
    }

    private static void noDraft(Check c) {
        FlameGuards x = new FlameGuards();
        c.due("no entry", x.count(2), 0);
        x.plan(3, 5);
        c.due("an entry to come", x.count(2), 0);
        x.pass(2);
        c.due("an entry for the tick behind", x.count(2), 0);
        x.pass(1);
        c.due("its tick", x.count(2), 5);
    }
}
