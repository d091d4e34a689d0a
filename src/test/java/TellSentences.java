import java.util.List;

/** The sentences of promises 17 to 25, which tell and change nothing. */
final class TellSentences {
    private static final int[] FAR = {Integer.MIN_VALUE, -1, Integer.MAX_VALUE};

    private TellSentences() {
    }

    static void addTo(List<Sentence> all) {
        addBurner(all);
        addStaysOpen(all);
        addToPress(all);
        addClearIn(all);
        addBlownIn(all);
        addEntryAndEvent(all);
        addCount(all);
        addSetting(all);
    }

    private static void addBurner(List<Sentence> all) {
        String promise = "Promise 17";
        all.add(new Sentence(promise, "`burner`: a burner", c -> Refused.noBurner(c, "burner", (x, b) -> x.burner(b, 5)))
                .brokenIn("public int burner(", "return UNKNOWN;", "return BAD_VALUE;"));
        all.add(new Sentence(promise, "Returns the number; UNKNOWN; BAD_VALUE.", TellSentences::burnerNumbers)
                .brokenIn("public int burner(", "return BAD_VALUE;", "return NONE;")
                .brokenIn("public int burner(", "default:\n                return BAD_VALUE;",
                        "case 12:\n                return 0;\n            default:\n                return BAD_VALUE;")
                .brokenIn("public int burner(", "case 11:\n                return found.strength();\n", "")
                .brokenIn("public int burner(", "case 0:\n                return found.kind;\n", ""));
        all.add(new Sentence(promise, "11 for its strength against drafts (0 if the tap is off)",
                TellSentences::strengthWithTheTapOff)
                .brokenIn("private int told(", "return 0;", "return 2;")
                .brokenIn("private int told(", "return 0;", "return elementAt(row, kind * 2);")
                .broken("STRENGTH = {2, 4, 3, 6, 1, 5}", "STRENGTH = {2, 4, 3, 6, 1, 4}"));
        all.add(new Sentence(promise, "10 for all gas that flowed unburnt from it so far", TellSentences::allUnburntGas)
                .broken("burner.unburnt += burner.flow();", "burner.unburnt = burner.flow();")
                .broken("burner.dark = 0;", "burner.dark = 0; burner.unburnt = 0;")
                .broken("found.kind = kind;", "found.kind = kind; found.unburnt = 0;"));
    }

    private static void addStaysOpen(List<Sentence> all) {
        String promise = "Promise 18";
        all.add(new Sentence(promise, "Tells how long the valve of a burner would stay open if it was without a flame from"
                + " now on, its knob not pressed and nothing turned.", TellSentences::staysOpenThough)
                .brokenIn("public int staysOpen(", "found.temperatureAfter(temperature, 0)",
                        "found.temperatureAfter(temperature, found.flame ? found.heatAt(found.tap) : 0)")
                .brokenIn("public int staysOpen(", "int ticks = 0;", "if (found.pressed) {\n            return NONE;\n"
                        + "        }\n        int ticks = 0;")
                .brokenIn("public int staysOpen(", "int temperature = found.temperature;",
                        "int temperature = found.temperature; found.flame = false;"));
        all.add(new Sentence(promise, "`burner`: a burner", c -> Refused.noBurner(c, "staysOpen", FlameGuards::staysOpen))
                .brokenIn("public int staysOpen(", "return UNKNOWN;", "return NOT_POSSIBLE;"));
        all.add(new Sentence(promise, "Returns in how many ticks its joint is below the threshold",
                TellSentences::ticksTillBelow)
                .brokenIn("public int staysOpen(", "temperature >= threshold", "temperature > threshold")
                .brokenIn("public int staysOpen(", "temperature >= threshold", "temperature >= threshold - 1")
                .brokenIn("public int staysOpen(", "return ticks;", "return ticks - 1;"));
        all.add(new Sentence(promise, "NOT_POSSIBLE if the tap is off, or it is locked", TellSentences::staysOpenNotPossible)
                .broken("found.tap == Burner.OFF || found.locked", "found.tap == Burner.OFF")
                .broken("found.tap == Burner.OFF || found.locked", "found.locked"));
        all.add(new Sentence(promise, "0 if it is below already.", TellSentences::belowAlready)
                .brokenIn("public int staysOpen(", "return ticks;", "return Math.max(1, ticks);")
                .brokenIn("public int staysOpen(", "return ticks;", "return ticks == 0 ? NONE : ticks;")
                .brokenIn("public int staysOpen(", "temperature >= threshold", "temperature >= threshold - 1"));
    }

    private static void addToPress(List<Sentence> all) {
        String promise = "Promise 19";
        all.add(new Sentence(promise, "Tells how long the knob of a burner is to be pressed, if it has a flame from now on,"
                + " with a tap.", TellSentences::toPressThough)
                .brokenIn("public int toPress(", "found.heatAt(tap)", "found.heatAt(found.tap)")
                .brokenIn("public int toPress(", "int ticks = 0;",
                        "if (found.locked) {\n            return NOT_POSSIBLE;\n        }\n        int ticks = 0;")
                .brokenIn("public int toPress(", "int ticks = 0;",
                        "if (found.tap == 0) {\n            return NOT_POSSIBLE;\n        }\n        int ticks = 0;"));
        all.add(new Sentence(promise, "`burner`: a burner",
                c -> Refused.noBurner(c, "toPress", (x, b) -> x.toPress(b, 1)))
                .brokenIn("public int toPress(", "return UNKNOWN;", "return BAD_VALUE;"));
        all.add(new Sentence(promise, "`tap`: 1 or 2", TellSentences::tapsOneAndTwo)
                .broken("isWithin(tap, Burner.LOW, Burner.HIGH)", "isWithin(tap, Burner.OFF, Burner.HIGH)")
                .broken("isWithin(tap, Burner.LOW, Burner.HIGH)", "isWithin(tap, Burner.LOW, Burner.HIGH + 1)")
                .broken("isWithin(tap, Burner.LOW, Burner.HIGH)", "isWithin(tap, Burner.LOW, Burner.LOW)")
                .broken("isWithin(tap, Burner.LOW, Burner.HIGH)", "isWithin(tap, Burner.HIGH, Burner.HIGH)")
                .brokenIn("public int toPress(", "return BAD_VALUE;", "return UNKNOWN;"));
        all.add(new Sentence(promise, "Returns in how many ticks its joint is at the threshold or above (0 if it is already)",
                TellSentences::ticksTillWarm)
                .brokenIn("public int toPress(", "temperature < threshold", "temperature <= threshold")
                .brokenIn("public int toPress(", "temperature < threshold", "temperature < threshold - 1")
                .brokenIn("public int toPress(", "return ticks;", "return Math.max(1, ticks);")
                .brokenIn("public int toPress(", "return ticks;", "return ticks == 0 ? NONE : ticks;"));
    }

    private static void addClearIn(List<Sentence> all) {
        String promise = "Promise 20";
        all.add(new Sentence(promise, "Tells in how many ticks no valve is open without a flame, and there is no gas in the"
                + " room, if only ticks pass.", TellSentences::clearOfBoth)
                .brokenIn("boolean isClear() {", "if (gas > 0) {", "if (gas > 1) {")
                .brokenIn("boolean isClear() {", "if (gas > 0) {", "if (false) {")
                .brokenIn("boolean isClear() {", "if (flowsUnburnt(burner)) {", "if (isOpen(burner)) {")
                .brokenIn("boolean isClear() {", "if (flowsUnburnt(burner)) {", "if (false) {")
                .brokenIn("public int clearIn() {", "trial.passTick();", "state.passTick();"));
        all.add(new Sentence(promise, "Returns the ticks, up to 500", TellSentences::clearInFiveHundred)
                .brokenIn("public int clearIn() {", "ticks <= FARTHEST_LOOK", "ticks < FARTHEST_LOOK")
                .brokenIn("public int clearIn() {", "ticks <= FARTHEST_LOOK", "ticks <= FARTHEST_LOOK + 1"));
        all.add(new Sentence(promise, "0 if it is so now", TellSentences::clearNow)
                .brokenIn("public int clearIn() {", "return ticks;", "return Math.max(1, ticks);")
                .brokenIn("public int clearIn() {", "return ticks;", "return ticks == 0 ? NONE : ticks;")
                .brokenIn("public int clearIn() {", "if (trial.isClear()) {", "trial.passTick();\n"
                        + "            if (trial.isClear()) {"));
        all.add(new Sentence(promise, "NONE if it does not come to that.", TellSentences::neverClear)
                .brokenIn("public int clearIn() {", "return NONE;", "return FARTHEST_LOOK;")
                .brokenIn("boolean isClear() {", "if (flowsUnburnt(burner)) {", "if (false) {"));
    }

    private static void addBlownIn(List<Sentence> all) {
        String promise = "Promise 21";
        all.add(new Sentence(promise, "Tells the first tick from now on whose draft is greater than the strength of a"
                + " burner, with its tap as it is, whether it has a flame or not.", TellSentences::blownBeyondItsStrength)
                .brokenIn("public int blownIn(", "> strength", ">= strength")
                .brokenIn("public int blownIn(", "> strength", "> strength + 1")
                .brokenIn("public int blownIn(", "int strength",
                        "if (!found.flame) {\n            return NONE;\n        }\n        int strength"));
        all.add(new Sentence(promise, "`burner`: a burner", c -> Refused.noBurner(c, "blownIn", FlameGuards::blownIn))
                .brokenIn("public int blownIn(", "return UNKNOWN;", "return NOT_POSSIBLE;"));
        all.add(new Sentence(promise, "Returns in how many ticks that is (0 for the next tick), up to 500",
                TellSentences::blownInUpToFiveHundred)
                .brokenIn("public int blownIn(", "ticks <= FARTHEST_LOOK", "ticks < FARTHEST_LOOK")
                .brokenIn("public int blownIn(", "ticks <= FARTHEST_LOOK", "ticks <= FARTHEST_LOOK + 1")
                .brokenIn("public int blownIn(", "int ticks = 0;", "int ticks = 1;")
                .brokenIn("public int blownIn(", "return ticks;", "return ticks + 1;"));
        all.add(new Sentence(promise, "NOT_POSSIBLE if the tap is off; NONE if there is none.",
                TellSentences::blownInNotPossible)
                .brokenIn("public int blownIn(", "return NOT_POSSIBLE;", "return NONE;")
                .brokenIn("public int blownIn(", "if (found.tap == Burner.OFF) {", "if (false) {")
                .brokenIn("public int blownIn(", "if (found.tap == Burner.OFF) {", "if (found.tap != Burner.HIGH) {")
                .brokenIn("public int blownIn(", "return NONE;", "return FARTHEST_LOOK;"));
    }

    private static void addEntryAndEvent(List<Sentence> all) {
        all.add(new Sentence("Promise 22", "BAD_VALUE (place is negative, or what)", TellSentences::badEntries)
                .brokenIn("public int entry(", "place < 0 || ", "")
                .brokenIn("public int entry(", "isWithin(what, 0, 1)", "isWithin(what, 0, 2)")
                .brokenIn("public int entry(", "isWithin(what, 0, 1)", "isWithin(what, -1, 1)")
                .brokenIn("public int entry(", "isWithin(what, 0, 1)", "isWithin(what, 0, 0)")
                .brokenIn("public int entry(", "isWithin(what, 0, 1)", "isWithin(what, 1, 1)"));
        all.add(new Sentence("Promise 22", "NONE if there are not so many.", TellSentences::missingEntries)
                .brokenIn("public int entry(", "place >= state.drafts.size", "place > state.drafts.size")
                .brokenIn("public int entry(", "place >= state.drafts.size", "place >= state.drafts.size - 1")
                .brokenIn("public int entry(", "return NONE;", "return BAD_VALUE;"));
        all.add(new Sentence("Promise 22", "a place among the entries of the plan, by their ticks, from 0",
                TellSentences::entriesByTheirTicks)
                .broken("ticks[place - 1] > tick", "ticks[place - 1] < tick")
                .broken("ticks[place - 1] > tick", "false")
                .broken("while (place > 0 && ", "while (place > 1 && "));
        all.add(new Sentence("Promise 23", "BAD_VALUE (back is negative, or what)", TellSentences::badEvents)
                .brokenIn("public int event(", "back < 0 || ", "")
                .brokenIn("public int event(", "isWithin(what, 0, 2)", "isWithin(what, 0, 3)")
                .brokenIn("public int event(", "isWithin(what, 0, 2)", "isWithin(what, -1, 2)")
                .brokenIn("public int event(", "isWithin(what, 0, 2)", "isWithin(what, 0, 1)")
                .brokenIn("public int event(", "isWithin(what, 0, 2)", "isWithin(what, 1, 2)"));
        all.add(new Sentence("Promise 23", "NONE if there is none.", TellSentences::missingEvents)
                .brokenIn("public int event(", "back >= state.log.known", "back > state.log.known")
                .brokenIn("public int event(", "back >= state.log.known", "back >= state.log.known - 1")
                .brokenIn("public int event(", "return NONE;", "return BAD_VALUE;"));
        all.add(new Sentence("Promise 23", "(that by light() has the tick as it is then)", TellSentences::ticksOfEvents)
                .broken("log.note(Log.LIT, index, tick);", "log.note(Log.LIT, index, tick + 1);")
                .broken("log.note(Log.LIT, index, tick);", "log.note(Log.LIT, index, tick - 1);")
                .broken("log.note(Log.BLOWN_OUT, index, tick);", "log.note(Log.BLOWN_OUT, index, tick + 1);")
                .broken("log.note(Log.DROPPED, index, tick);", "log.note(Log.DROPPED, index, tick + 1);"));
    }

    private static void addCount(List<Sentence> all) {
        String promise = "Promise 24";
        all.add(new Sentence(promise, "Returns the number; BAD_VALUE.", TellSentences::countNumbers)
                .brokenIn("public int count(", "return BAD_VALUE;", "return UNKNOWN;")
                .brokenIn("public int count(", "case 14:\n                return text.length;\n", "")
                .brokenIn("public int count(", "case 0:\n                return state.tick;\n", "")
                .brokenIn("public int count(", "default:",
                        "case 15:\n                return 0;\n            default:"));
        all.add(new Sentence(promise, "2 for the draft of the next tick", TellSentences::draftOfTheNextTick)
                .broken("return drafts.draftIn(tick);", "return drafts.draftIn(tick + 1);")
                .broken("return drafts.draftIn(tick);", "return drafts.draftIn(tick - 1);"));
        all.add(new Sentence(promise, "4 to 7 for the events so far (lit, blown out, dropped, locked)",
                TellSentences::eventsSoFar)
                .broken("elementAt(state.log.counts, what - 4)", "elementAt(state.log.counts, what - 3)")
                .broken("counts[event]++;", "counts[event] = Math.min(counts[event] + 1, 10);")
                .broken("log.note(Log.LOCKED, index, tick);", "log.note(Log.DROPPED, index, tick);"));
        all.add(new Sentence(promise, "11 for the most gas in the room so far (at the end of a tick, ahead of its becoming"
                + " less)", TellSentences::mostGas)
                .broken("mostGas = Math.max(mostGas, gas);", "mostGas = gas;")
                .broken("            mostGas = Math.max(mostGas, gas);\n            gas = Math.max(0, gas - settings.valueOf("
                        + "Settings.AIRING) - draft);", "            gas = Math.max(0, gas - settings.valueOf("
                        + "Settings.AIRING) - draft);\n            mostGas = Math.max(mostGas, gas);"));
        all.add(new Sentence(promise, "12 for the most dark ticks of a burner so far", TellSentences::mostDarkTicks)
                .broken("mostDark = Math.max(mostDark, burner.dark);", "mostDark = burner.dark;")
                .broken("mostDark = Math.max(mostDark, burner.dark);", "mostDark++;"));
        all.add(new Sentence(promise, "8 for flames, 9 for open valves, 10 for locked burners", TellSentences::manyBurners)
                .broken("number += oneIf(burner.flame);", "number |= oneIf(burner.flame);")
                .broken("number += oneIf(isOpen(burner));", "number |= oneIf(isOpen(burner));")
                .broken("number += oneIf(burner.locked);", "number |= oneIf(burner.locked);")
                .broken("number += oneIf(isOpen(burner));", "number += oneIf(burner.pressed);"));
        all.add(new Sentence(promise, "13 for the states in the history, 14 for the length of the text",
                TellSentences::statesAndLength)
                .broken("MOST_STATES = 4", "MOST_STATES = 5")
                .broken("MOST_CHARACTERS = 60", "MOST_CHARACTERS = 61")
                .brokenIn("public int count(", "return history.size;", "return text.length;"));
    }

    private static void addSetting(List<Sentence> all) {
        all.add(new Sentence("Promise 25", "`which`: 0 to 3", TellSentences::settingsFromZeroToThree)
                .broken("isWithin(which, 0, FIRST.length - 1)", "isWithin(which, 0, FIRST.length)")
                .broken("isWithin(which, 0, FIRST.length - 1)", "isWithin(which, 0, FIRST.length - 2)")
                .broken("isWithin(which, 0, FIRST.length - 1)", "isWithin(which, -1, FIRST.length - 1)")
                .broken("isWithin(which, 0, FIRST.length - 1)", "isWithin(which, 1, FIRST.length - 1)"));
        all.add(new Sentence("Promise 25", "Returns the setting; UNKNOWN.", TellSentences::noSettings)
                .brokenIn("public int setting(", "return UNKNOWN;", "return BAD_VALUE;")
                .brokenIn("public int setting(", "return UNKNOWN;", "return 0;"));
    }

    private static void burnerNumbers(Check c) {
        FlameGuards x = Given.burning(Given.LARGE, Given.HIGH);
        x.igniter(0, true);
        x.plan(3, 7);
        x.pass(5);
        int[] answers = {1, 2, 1, 1, 0, 310, 1, 0, 2, 2, 18, 6};
        for (int what = 0; what <= 11; what++) {
            c.due("burner(0, " + what + ")", x.burner(0, what), answers[what]);
        }
        for (int far : FAR) {
            Refused.due(c, "burner(0, " + far + ")", Given::rich, y -> y.burner(0, far), FlameGuards.BAD_VALUE);
        }
        Refused.due(c, "burner(3, 12)", Given::rich, y -> y.burner(3, 12), FlameGuards.BAD_VALUE);
        c.due("burner(4, 12)", x.burner(4, 12), FlameGuards.UNKNOWN);
    }

    private static void strengthWithTheTapOff(Check c) {
        for (int i = 0; i < 6; i++) {
            FlameGuards x = new FlameGuards();
            x.setKind(0, i / 2);
            c.due("the tap off", x.burner(0, 11), 0);
            x.turn(0, i % 2 + 1);
            c.due("turned", x.burner(0, 11), Given.STRENGTHS[i]);
            x.turn(0, Given.OFF);
            c.due("the tap off again", x.burner(0, 11), 0);
        }
    }

    private static void allUnburntGas(Check c) {
        FlameGuards x = new FlameGuards();
        c.due("at first", x.burner(0, 10), 0);
        Given.open(x, 0, Given.LOW);
        x.pass(3);
        c.due("in three ticks", x.burner(0, 10), 6);
        x.turn(0, Given.OFF);
        x.pass(1);
        c.due("turned off", x.burner(0, 10), 6);
        x.setKind(0, Given.WIDE);
        x.turn(0, Given.HIGH);
        x.pass(2);
        c.due("as another kind", x.burner(0, 10), 34);
        x.light(0);
        x.pass(2);
        c.due("with a flame", x.burner(0, 10), 34);
        c.due("another one", x.burner(1, 10), 0);
    }

    /** A joint at 700: 629, 566, 509, 458, 412, 370, 332, 298 behind the ticks without a flame. */
    private static FlameGuards hot() {
        FlameGuards x = Given.burning(Given.SMALL, Given.HIGH);
        x.pass(100);
        return x;
    }

    private static void staysOpenThough(Check c) {
        FlameGuards x = hot();
        c.due("pressed, with a flame", x.staysOpen(0), 8);
        c.due("the flame stays", x.burner(0, 4), 1);
        c.due("the knob stays", x.burner(0, 2), 1);
        x.press(0, false);
        c.due("let go, with a flame", x.staysOpen(0), 8);
        x.turn(0, Given.LOW);
        c.due("turned low", x.staysOpen(0), 8);
        x.plan(100, 9);
        c.due("blown out", x.pass(1), 1);
        c.due("without a flame", x.staysOpen(0), 7);
        x.press(0, true);
        c.due("pressed, without a flame", x.staysOpen(0), 7);
        x.igniter(0, true);
        x.plan(101, 0);
        c.due("its igniter on", x.staysOpen(0), 7);
    }

    private static void ticksTillBelow(Check c) {
        FlameGuards x = hot();
        int[] thresholds = {298, 299, 300, 332, 333, 412, 413, 449, 450};
        int[] ticks = {9, 8, 8, 8, 7, 6, 5, 5, 5};
        for (int i = 0; i < thresholds.length; i++) {
            x.set(0, thresholds[i]);
            c.due("staysOpen with " + thresholds[i], x.staysOpen(0), ticks[i]);
        }
        x.set(0, 298);
        x.press(0, false);
        x.plan(100, 9);
        x.pass(8);
        c.due("at the threshold", x.burner(0, 5), 298);
        c.due("open still", x.burner(0, 6), 1);
        c.due("one tick more", x.staysOpen(0), 1);
        c.due("dropped then", x.pass(1), 1);
        c.due("closed", x.burner(0, 6), 0);
    }

    private static void staysOpenNotPossible(Check c) {
        Refused.due(c, "staysOpen, the tap off", FlameGuards::new, x -> x.staysOpen(0), FlameGuards.NOT_POSSIBLE);
        Refused.due(c, "staysOpen, locked", Given::withLock, x -> x.staysOpen(3), FlameGuards.NOT_POSSIBLE);
        FlameGuards x = hot();
        x.turn(0, Given.OFF);
        c.due("hot, the tap off", x.staysOpen(0), FlameGuards.NOT_POSSIBLE);
        x.turn(0, Given.LOW);
        c.due("hot, the tap low", x.staysOpen(0), 8);
        FlameGuards y = hot();
        y.set(1, 1);
        y.igniter(0, true);
        y.plan(100, 9);
        y.pass(1);
        c.due("hot, locked", y.staysOpen(0), FlameGuards.NOT_POSSIBLE);
    }

    private static void belowAlready(Check c) {
        FlameGuards x = new FlameGuards();
        x.turn(0, Given.LOW);
        c.due("cold", x.staysOpen(0), 0);
        x.press(0, true);
        c.due("cold, though pressed", x.staysOpen(0), 0);
        x.light(0);
        x.pass(7);
        x.set(0, 306);
        c.due("1 below", x.staysOpen(0), 0);
        x.set(0, 305);
        c.due("at the threshold", x.staysOpen(0), 1);
    }

    private static void toPressThough(Check c) {
        FlameGuards x = new FlameGuards();
        c.due("the tap off", x.toPress(0, Given.LOW), 7);
        x.turn(0, Given.HIGH);
        c.due("another tap", x.toPress(0, Given.LOW), 7);
        c.due("its tap", x.toPress(0, Given.HIGH), 5);
        c.due("locked", Given.withLock().toPress(3, Given.LOW), 8);
        x.press(0, true);
        x.light(0);
        x.plan(0, 9);
        x.pass(1);
        c.due("blown out", x.burner(0, 4), 0);
        c.due("in a draft", x.toPress(0, Given.HIGH), 5);
    }

    private static void tapsOneAndTwo(Check c) {
        c.due("low", new FlameGuards().toPress(3, Given.LOW), 8);
        c.due("high", new FlameGuards().toPress(3, Given.HIGH), 4);
        for (int tap : new int[] {Integer.MIN_VALUE, -1, 0, 3, Integer.MAX_VALUE}) {
            Refused.due(c, "toPress(0, " + tap + ")", Given::rich, x -> x.toPress(0, tap), FlameGuards.BAD_VALUE);
        }
    }

    /** A small joint with the tap low is at 63, 118, 166, 208, 245, 277, 305. */
    private static void ticksTillWarm(Check c) {
        FlameGuards x = new FlameGuards();
        int[] thresholds = {118, 119, 166, 167, 277, 278, 305, 306};
        int[] ticks = {2, 3, 3, 4, 6, 7, 7, 8};
        for (int i = 0; i < thresholds.length; i++) {
            x.set(0, thresholds[i]);
            c.due("toPress with " + thresholds[i], x.toPress(0, Given.LOW), ticks[i]);
        }
        Given.burn(x, 0, Given.LOW);
        x.pass(7);
        c.due("1 below", x.toPress(0, Given.LOW), 1);
        x.set(0, 305);
        c.due("at the threshold", x.toPress(0, Given.LOW), 0);
        x.set(0, 304);
        c.due("above", x.toPress(0, Given.HIGH), 0);
        FlameGuards y = new FlameGuards();
        Given.open(y, 0, Given.LOW);
        int told = y.toPress(0, Given.LOW);
        y.light(0);
        y.pass(told - 1);
        c.due("let go too early", y.press(0, false), 0);
        y.press(0, true);
        y.pass(1);
        c.due("let go then", y.press(0, false), 1);
    }

    private static void clearOfBoth(Check c) {
        FlameGuards gasAlone = Given.withGas(9);
        gasAlone.set(2, 1);
        c.due("gas alone", gasAlone.clearIn(), 9);
        gasAlone.pass(8);
        c.due("gas of 1", gasAlone.count(1), 1);
        c.due("gas of 1", gasAlone.clearIn(), 1);
        FlameGuards openAlone = new FlameGuards();
        Given.open(openAlone, 0, Given.LOW);
        openAlone.igniter(0, true);
        c.due("an open valve alone", openAlone.clearIn(), 1);
        openAlone.pass(1);
        c.due("an open valve with a flame", openAlone.clearIn(), 0);
        FlameGuards both = hot();
        both.set(2, 0);
        both.press(0, false);
        both.plan(100, 5);
        both.plan(101, 1);
        c.due("clear ahead of the draft", both.clearIn(), 0);
        both.pass(1);
        // Seven ticks more stay open, the last one without gas: 6 * 4 in all, less 1 in each tick.
        c.due("the valve, then the gas", both.clearIn(), 24);
        c.due("it changes nothing", both.count(0), 101);
        both.pass(23);
        c.due("the gas ahead", both.count(1), 1);
        both.pass(1);
        c.due("no gas then", both.count(1), 0);
        c.due("clear then", both.clearIn(), 0);
    }

    private static void clearInFiveHundred(Check c) {
        for (int gas = 498; gas <= 503; gas++) {
            FlameGuards x = Given.withGas(gas);
            x.set(2, 1);
            c.due("gas of " + gas, x.clearIn(), gas <= 500 ? gas : FlameGuards.NONE);
        }
    }

    private static void clearNow(Check c) {
        c.due("a new object", new FlameGuards().clearIn(), 0);
        c.due("a flame", Given.burning(Given.SMALL, Given.LOW).clearIn(), 0);
        FlameGuards x = Given.burning(Given.SMALL, Given.LOW);
        x.plan(0, 9);
        c.due("a flame ahead of a draft", x.clearIn(), 0);
        FlameGuards y = new FlameGuards();
        y.turn(0, Given.HIGH);
        c.due("a closed valve", y.clearIn(), 0);
        c.due("a lock", Given.withLock().clearIn(), 0);
    }

    private static void neverClear(Check c) {
        FlameGuards x = new FlameGuards();
        Given.open(x, 0, Given.LOW);
        c.due("pressed without a flame", x.clearIn(), FlameGuards.NONE);
        x.press(0, false);
        c.due("let go", x.clearIn(), 0);
        FlameGuards y = Given.withGas(2);
        c.due("gas that does not leave", y.clearIn(), FlameGuards.NONE);
        y.plan(400, 1);
        c.due("a draft to come", y.clearIn(), 401);
    }

    private static void blownBeyondItsStrength(Check c) {
        for (int i = 0; i < 6; i++) {
            FlameGuards x = new FlameGuards();
            x.setKind(0, i / 2);
            x.turn(0, i % 2 + 1);
            x.plan(4, Given.STRENGTHS[i]);
            c.due("as great as the strength", x.blownIn(0), FlameGuards.NONE);
            x.plan(6, Given.STRENGTHS[i] + 1);
            c.due("greater by 1", x.blownIn(0), 6);
            x.plan(7, 0);
            x.plan(9, 9);
            c.due("the first one", x.blownIn(0), 6);
            x.press(0, true);
            x.light(0);
            c.due("with a flame", x.blownIn(0), 6);
        }
        c.due("locked", Given.withLock().blownIn(3), 0);
    }

    private static void blownInUpToFiveHundred(Check c) {
        for (int tick = 499; tick <= 502; tick++) {
            FlameGuards x = new FlameGuards();
            x.turn(0, Given.LOW);
            x.plan(tick, 3);
            c.due("in " + tick, x.blownIn(0), tick <= 500 ? tick : FlameGuards.NONE);
            x.pass(2);
            c.due("two ticks later", x.blownIn(0), tick - 2);
        }
        FlameGuards x = new FlameGuards();
        x.turn(0, Given.LOW);
        x.plan(0, 3);
        c.due("the next tick", x.blownIn(0), 0);
        x.plan(1, 0);
        x.pass(1);
        c.due("a draft that is past", x.blownIn(0), FlameGuards.NONE);
        x.plan(2, 3);
        c.due("the tick behind the next", x.blownIn(0), 1);
        x.pass(50);
        c.due("a draft that holds", x.blownIn(0), 0);
    }

    private static void blownInNotPossible(Check c) {
        Refused.due(c, "blownIn, the tap off", FlameGuards::new, x -> x.blownIn(0), FlameGuards.NOT_POSSIBLE);
        FlameGuards x = new FlameGuards();
        x.plan(0, 9);
        c.due("the tap off in a draft", x.blownIn(0), FlameGuards.NOT_POSSIBLE);
        x.turn(0, Given.LOW);
        c.due("the tap low", x.blownIn(0), 0);
        x.turn(0, Given.OFF);
        c.due("turned off", x.blownIn(0), FlameGuards.NOT_POSSIBLE);
        FlameGuards y = new FlameGuards();
        y.turn(0, Given.HIGH);
        c.due("no draft", y.blownIn(0), FlameGuards.NONE);
        y.plan(9, 4);
        c.due("no draft that is great enough", y.blownIn(0), FlameGuards.NONE);
    }

    private static void badEntries(Check c) {
        FlameGuards x = Given.withFullPlan();
        c.due("entry(0, 0)", x.entry(0, 0), 10);
        c.due("entry(0, 1)", x.entry(0, 1), 1);
        for (int place : new int[] {Integer.MIN_VALUE, -1}) {
            Refused.due(c, "entry(" + place + ", 0)", Given::rich, y -> y.entry(place, 0), FlameGuards.BAD_VALUE);
        }
        for (int what : new int[] {Integer.MIN_VALUE, -1, 2, Integer.MAX_VALUE}) {
            Refused.due(c, "entry(0, " + what + ")", Given::rich, y -> y.entry(0, what), FlameGuards.BAD_VALUE);
            c.due("entry(12, " + what + ")", x.entry(12, what), FlameGuards.BAD_VALUE);
        }
    }

    private static void missingEntries(Check c) {
        for (int size = 0; size <= 12; size++) {
            FlameGuards x = new FlameGuards();
            for (int tick = 0; tick < size; tick++) {
                x.plan(tick + 5, 3);
            }
            if (size > 0) {
                c.due("the last tick", x.entry(size - 1, 0), size + 4);
                c.due("the last draft", x.entry(size - 1, 1), 3);
            }
            c.due("one more", x.entry(size, 0), FlameGuards.NONE);
            c.due("one more", x.entry(size, 1), FlameGuards.NONE);
            c.due("far more", x.entry(Integer.MAX_VALUE, 1), FlameGuards.NONE);
        }
        FlameGuards y = Given.withFullPlan();
        Given.readPlan(y, "1:1");
        c.due("the old plan's entries are gone", y.entry(1, 0), FlameGuards.NONE);
    }

    private static void entriesByTheirTicks(Check c) {
        int[][] orders = {{0, 1, 9999}, {0, 9999, 1}, {1, 0, 9999}, {1, 9999, 0}, {9999, 0, 1}, {9999, 1, 0}};
        int[] ticks = {0, 1, 9999};
        for (int[] order : orders) {
            FlameGuards x = new FlameGuards();
            for (int tick : order) {
                x.plan(tick, tick % 7);
            }
            for (int place = 0; place < 3; place++) {
                c.due("tick", x.entry(place, 0), ticks[place]);
                c.due("draft", x.entry(place, 1), ticks[place] % 7);
            }
        }
    }

    private static void badEvents(Check c) {
        FlameGuards x = Given.burning(Given.SMALL, Given.LOW);
        c.due("event(0, 0)", x.event(0, 0), 0);
        c.due("event(0, 1)", x.event(0, 1), 0);
        c.due("event(0, 2)", x.event(0, 2), 0);
        for (int back : new int[] {Integer.MIN_VALUE, -1}) {
            Refused.due(c, "event(" + back + ", 0)", Given::rich, y -> y.event(back, 0), FlameGuards.BAD_VALUE);
        }
        for (int what : new int[] {Integer.MIN_VALUE, -1, 3, Integer.MAX_VALUE}) {
            Refused.due(c, "event(0, " + what + ")", Given::rich, y -> y.event(0, what), FlameGuards.BAD_VALUE);
            c.due("event(9, " + what + ")", x.event(9, what), FlameGuards.BAD_VALUE);
        }
    }

    private static void missingEvents(Check c) {
        FlameGuards x = new FlameGuards();
        for (int known = 0; known <= 10; known++) {
            for (int what = 0; what <= 2; what++) {
                c.due("one more", x.event(known, what), FlameGuards.NONE);
            }
            c.due("far more", x.event(Integer.MAX_VALUE, 0), FlameGuards.NONE);
            if (known > 0) {
                c.due("the oldest", x.event(known - 1, 0), 0);
            }
            Given.open(x, 1, Given.LOW);
            x.light(1);
            x.turn(1, Given.OFF);
            x.press(1, false);
        }
    }

    private static void ticksOfEvents(Check c) {
        FlameGuards x = new FlameGuards();
        x.pass(7);
        Given.burn(x, 0, Given.LOW);
        c.due("lit by hand", x.event(0, 2), 7);
        x.igniter(1, true);
        Given.open(x, 1, Given.LOW);
        x.pass(1);
        c.due("lit by an igniter", x.event(0, 1), 1);
        c.due("its tick", x.event(0, 2), 7);
        x.pass(8);
        x.press(0, false);
        x.plan(20, 3);
        x.plan(21, 2);
        x.pass(4);
        c.due("nothing ahead of the draft", x.event(0, 2), 7);
        c.due("both are blown out", x.pass(1), 2);
        c.due("its tick", x.event(0, 2), 20);
        x.igniter(1, false);
        // The joint: 416 ahead of the draft, then 374, 336, 302, 271.
        x.pass(9);
        c.due("dropped", x.event(0, 0), 2);
        c.due("its burner", x.event(0, 1), 0);
        c.due("its tick", x.event(0, 2), 23);
    }

    private static void countNumbers(Check c) {
        FlameGuards x = new FlameGuards();
        for (int what = 0; what <= 14; what++) {
            c.due("count(" + what + ")", x.count(what), 0);
        }
        for (int what : new int[] {Integer.MIN_VALUE, -1, 15, Integer.MAX_VALUE}) {
            Refused.due(c, "count(" + what + ")", Given::rich, y -> y.count(what), FlameGuards.BAD_VALUE);
        }
        x.pass(3);
        x.type('1');
        c.due("count(0)", x.count(0), 3);
        c.due("count(14)", x.count(14), 1);
    }

    private static void draftOfTheNextTick(Check c) {
        FlameGuards x = new FlameGuards();
        x.plan(2, 6);
        x.plan(3, 1);
        for (int due : new int[] {0, 0, 6, 1, 1}) {
            c.due("draft in " + x.count(0), x.count(2), due);
            x.pass(1);
        }
    }

    private static void eventsSoFar(Check c) {
        FlameGuards x = new FlameGuards();
        x.press(0, true);
        for (int lit = 1; lit <= 13; lit++) {
            x.turn(0, Given.LOW);
            x.light(0);
            c.due("lit", x.count(4), lit);
            x.turn(0, Given.OFF);
        }
        c.due("blown out", x.count(5), 0);
        FlameGuards y = hot();
        y.set(1, 1);
        Given.burn(y, 1, Given.LOW);
        y.igniter(1, true);
        y.press(0, false);
        y.plan(100, 9);
        c.due("events", y.pass(20), 4);
        int[] counts = {2, 2, 1, 1};
        for (int event = 0; event < 4; event++) {
            c.due("count(" + (4 + event) + ")", y.count(4 + event), counts[event]);
        }
    }

    private static void mostGas(Check c) {
        FlameGuards x = new FlameGuards();
        Given.open(x, 3, Given.HIGH);
        x.plan(0, 9);
        x.pass(1);
        c.due("gas", x.count(1), 0);
        c.due("most gas, ahead of its becoming less", x.count(11), 14);
        Given.open(x, 2, Given.HIGH);
        x.pass(1);
        c.due("gas", x.count(1), 9);
        c.due("most gas, of both", x.count(11), 23);
        x.turn(3, Given.OFF);
        x.pass(1);
        c.due("gas", x.count(1), 4);
        c.due("most gas stays", x.count(11), 23);
        x.undo();
        x.undo();
        x.undo();
        c.due("undo brings it back", x.count(11), 14);
    }

    private static void mostDarkTicks(Check c) {
        FlameGuards x = new FlameGuards();
        Given.open(x, 0, Given.LOW);
        x.pass(5);
        Given.open(x, 1, Given.LOW);
        x.pass(2);
        c.due("of the first", x.count(12), 7);
        x.light(0);
        x.pass(4);
        c.due("not the sum", x.count(12), 7);
        x.pass(1);
        c.due("as many of the other", x.count(12), 7);
        x.pass(1);
        c.due("more of the other", x.count(12), 8);
        x.light(1);
        x.pass(3);
        c.due("it stays", x.count(12), 8);
    }

    private static void manyBurners(Check c) {
        FlameGuards x = new FlameGuards();
        for (int burner = 0; burner < 4; burner++) {
            c.due("open", x.count(9), burner);
            c.due("flames", x.count(8), burner);
            Given.burn(x, burner, Given.LOW);
        }
        c.due("open", x.count(9), 4);
        c.due("flames", x.count(8), 4);
        c.due("locked", x.count(10), 0);
        x.pass(20);
        x.press(0, false);
        c.due("a warm joint's valve", x.count(9), 4);
        x.set(1, 1);
        for (int burner = 0; burner < 4; burner++) {
            x.igniter(burner, true);
        }
        x.plan(20, 9);
        x.pass(1);
        c.due("open", x.count(9), 0);
        c.due("flames", x.count(8), 0);
        c.due("locked", x.count(10), 4);
    }

    private static void statesAndLength(Check c) {
        FlameGuards x = new FlameGuards();
        for (int number = 1; number <= 6; number++) {
            x.pass(1);
            c.due("states", x.count(13), Math.min(number, 4));
        }
        c.due("length", x.count(14), 0);
        for (int number = 1; number <= 62; number++) {
            x.type('1');
            c.due("length", x.count(14), Math.min(number, 60));
        }
        c.due("states", x.count(13), 4);
    }

    private static void settingsFromZeroToThree(Check c) {
        int[] first = {300, 5, 5, 300};
        for (int which = 0; which <= 3; which++) {
            c.due("setting(" + which + ")", new FlameGuards().setting(which), first[which]);
        }
        for (int which : new int[] {Integer.MIN_VALUE, -1, 4, Integer.MAX_VALUE}) {
            c.due("setting(" + which + ")", new FlameGuards().setting(which), FlameGuards.UNKNOWN);
        }
    }

    private static void noSettings(Check c) {
        for (int which : new int[] {Integer.MIN_VALUE, -1, 4, Integer.MAX_VALUE}) {
            Refused.due(c, "setting(" + which + ")", Given::rich, x -> x.setting(which), FlameGuards.UNKNOWN);
        }
        int[] rich = {250, 2, 1, 400};
        for (int which = 0; which <= 3; which++) {
            c.due("setting(" + which + ")", Given.rich().setting(which), rich[which]);
        }
    }
}
