import java.util.List;

/** The sentences of promises 1 to 4 and 6 to 11: the new object, settings, drafts and burners. */
final class ActSentences {
    private static final String NONE_IF_SO = "NONE if it is so already.";
    private static final int[] WRONG_KINDS_AND_TAPS = {Integer.MIN_VALUE, -1, 3, Integer.MAX_VALUE};

    private ActSentences() {
    }

    static void addTo(List<Sentence> all) {
        addNewObject(all);
        addSet(all);
        addSetKind(all);
        addPlan(all);
        addTurn(all);
        addPressAndIgniter(all);
        addLight(all);
        addUnlock(all);
        addPass(all);
    }

    private static void addNewObject(List<Sentence> all) {
        all.add(new Sentence("Promise 1", "Creates a cold stove.", ActSentences::coldStove)
                .broken("        int mostGas;", "        int mostGas = 1;")
                .broken("        int mostDark;", "        int mostDark = 1;")
                .broken("        int unburnt;", "        int unburnt = 1;")
                .broken("        int dark;", "        int dark = 1;")
                .brokenIn("        History() {", "size = 0;", "size = 1;")
                .brokenIn("        Plan() {", "size = 0;", "size = 1;")
                .brokenIn("        Log() {", "known = 0;", "known = 1;"));
    }

    private static void addSet(List<Sentence> all) {
        String promise = "Promise 2";
        all.add(new Sentence(promise, "`which`: 0 to 3", ActSentences::settingsFromZeroToThree)
                .broken("isWithin(which, 0, FIRST.length - 1)", "isWithin(which, 0, FIRST.length)")
                .broken("isWithin(which, 0, FIRST.length - 1)", "isWithin(which, 0, FIRST.length - 2)")
                .broken("isWithin(which, 0, FIRST.length - 1)", "isWithin(which, -1, FIRST.length - 1)")
                .broken("isWithin(which, 0, FIRST.length - 1)", "isWithin(which, 1, FIRST.length - 1)")
                .brokenIn("public int set(", "return UNKNOWN;", "return BAD_VALUE;"));
        all.add(new Sentence(promise, "`value`: in its range", ActSentences::valuesInTheirRange)
                .brokenIn("static boolean allows(", "isWithin(value, elementAt(LEAST, which), elementAt(MOST, which))",
                        "value <= elementAt(MOST, which)")
                .brokenIn("static boolean allows(", "isWithin(value, elementAt(LEAST, which), elementAt(MOST, which))",
                        "value >= elementAt(LEAST, which)")
                .brokenIn("public int set(", "return BAD_VALUE;", "return UNKNOWN;"));
        all.add(new Sentence(promise, "Returns the previous value; UNKNOWN; BAD_VALUE; " + NONE_IF_SO, ActSentences::setAsItIs)
                .brokenIn("public int set(", "if (previous == value) {", "if (false) {")
                .brokenIn("public int set(", "return NONE;", "return value;")
                .brokenIn("public int set(", "return previous;", "return value;"));
    }

    private static void addSetKind(List<Sentence> all) {
        String promise = "Promise 3";
        all.add(new Sentence(promise, "`burner`: a burner", c -> Refused.noBurner(c, "setKind", (x, b) -> x.setKind(b, 0)))
                .brokenIn("public int setKind(", "return UNKNOWN;", "return BAD_VALUE;"));
        all.add(new Sentence(promise, "`kind`: 0 to 2", ActSentences::kindsFromZeroToTwo)
                .broken("LAST_KIND = 2", "LAST_KIND = 1")
                .broken("LAST_KIND = 2", "LAST_KIND = 3")
                .broken("isWithin(kind, 0, Burner.LAST_KIND)", "isWithin(kind, -1, Burner.LAST_KIND)")
                .broken("isWithin(kind, 0, Burner.LAST_KIND)", "isWithin(kind, 1, Burner.LAST_KIND)")
                .brokenIn("public int setKind(", "return BAD_VALUE;", "return UNKNOWN;"));
        all.add(new Sentence(promise, "NOT_POSSIBLE if its tap is not off", ActSentences::kindOfATurnedOne)
                .brokenIn("public int setKind(", "found.tap != Burner.OFF", "found.tap == Burner.LOW")
                .brokenIn("public int setKind(", "found.tap != Burner.OFF", "found.tap == Burner.HIGH")
                .brokenIn("public int setKind(", "found.tap != Burner.OFF", "found.flame")
                .brokenIn("public int setKind(", "found.tap != Burner.OFF", "found.tap != Burner.OFF || found.pressed"));
        all.add(new Sentence(promise, "Returns the previous kind; UNKNOWN; BAD_VALUE; NOT_POSSIBLE if its tap is not off; "
                + NONE_IF_SO, ActSentences::kindAsItIs)
                .brokenIn("public int setKind(", "if (previous == kind) {", "if (false) {")
                .brokenIn("public int setKind(", "return previous;", "return kind;"));
    }

    private static void addPlan(List<Sentence> all) {
        String promise = "Promise 4";
        all.add(new Sentence(promise, "`tick`: 0 to 9999", ActSentences::plannedTicks)
                .broken("LAST_PLANNED_TICK = 9999", "LAST_PLANNED_TICK = 9998")
                .broken("LAST_PLANNED_TICK = 9999", "LAST_PLANNED_TICK = 10000")
                .broken("isWithin(tick, 0, LAST_PLANNED_TICK)", "isWithin(tick, -1, LAST_PLANNED_TICK)")
                .broken("isWithin(tick, 0, LAST_PLANNED_TICK)", "isWithin(tick, 1, LAST_PLANNED_TICK)")
                .brokenIn("public int plan(", "return BAD_VALUE;", "return UNKNOWN;"));
        all.add(new Sentence(promise, "`draft`: 0 to 9", ActSentences::plannedDrafts)
                .broken("GREATEST_DRAFT = 9", "GREATEST_DRAFT = 8")
                .broken("GREATEST_DRAFT = 9", "GREATEST_DRAFT = 10")
                .broken("isWithin(draft, 0, GREATEST_DRAFT)", "isWithin(draft, -1, GREATEST_DRAFT)")
                .broken("isWithin(draft, 0, GREATEST_DRAFT)", "isWithin(draft, 1, GREATEST_DRAFT)"));
        all.add(new Sentence(promise, "Adds an entry to the plan; one with the same tick is replaced.",
                ActSentences::entryReplaced)
                .broken("if (place == size) {", "if (true) {")
                .brokenIn("boolean put(int tick, int draft) {", "values[place] = draft;", "")
                .broken("ticks[place - 1] > tick", "ticks[place - 1] > tick + 10")
                .brokenIn("private int placeOf(", "i < size", "i < size - 1")
                .brokenIn("private int placeOf(", "int i = 0;", "int i = 1;"));
        all.add(new Sentence(promise, "FULL if there are 12 and none with this tick", ActSentences::thirteenthEntry)
                .broken("MOST_ENTRIES = 12", "MOST_ENTRIES = 11")
                .broken("MOST_ENTRIES = 12", "MOST_ENTRIES = 13")
                .broken("return size < MOST_ENTRIES || placeOf(tick) < size;", "return size < MOST_ENTRIES;")
                .brokenIn("public int plan(", "return FULL;", "return NONE;"));
        all.add(new Sentence(promise, "NONE if the same entry is there.", ActSentences::sameEntry)
                .broken("return place < size && elementAt(values, place) == draft;", "return false;")
                .broken("return place < size && elementAt(values, place) == draft;", "return place < size;")
                .broken("return place < size && elementAt(values, place) == draft;",
                        "return elementAt(values, place) == draft;"));
    }

    private static void addTurn(List<Sentence> all) {
        String promise = "Promise 6";
        all.add(new Sentence(promise, "a flame goes out if it is turned off (no event)", ActSentences::turnedOff)
                .brokenIn("public int turn(", "if (tap == Burner.OFF) {", "if (false) {")
                .brokenIn("public int turn(", "if (tap == Burner.OFF) {", "if (true) {")
                .brokenIn("public int turn(", "found.flame = false;",
                        "found.flame = false; state.log.note(Log.DROPPED, burner, state.tick);"));
        all.add(new Sentence(promise, "`burner`: a burner", c -> Refused.noBurner(c, "turn", (x, b) -> x.turn(b, 1)))
                .brokenIn("public int turn(", "return UNKNOWN;", "return BAD_VALUE;"));
        all.add(new Sentence(promise, "`tap`: 0 to 2", ActSentences::tapsFromZeroToTwo)
                .broken("isWithin(tap, Burner.OFF, Burner.HIGH)", "isWithin(tap, Burner.OFF, Burner.HIGH + 1)")
                .broken("isWithin(tap, Burner.OFF, Burner.HIGH)", "isWithin(tap, Burner.OFF, Burner.LOW)")
                .broken("isWithin(tap, Burner.OFF, Burner.HIGH)", "isWithin(tap, Burner.OFF - 1, Burner.HIGH)")
                .broken("isWithin(tap, Burner.OFF, Burner.HIGH)", "isWithin(tap, Burner.LOW, Burner.HIGH)")
                .brokenIn("public int turn(", "return BAD_VALUE;", "return UNKNOWN;"));
        all.add(new Sentence(promise, "Returns the previous tap; UNKNOWN; BAD_VALUE; " + NONE_IF_SO, ActSentences::turnAsItIs)
                .brokenIn("public int turn(", "if (previous == tap) {", "if (false) {")
                .brokenIn("public int turn(", "return previous;", "return tap;"));
    }

    private static void addPressAndIgniter(List<Sentence> all) {
        all.add(new Sentence("Promise 7", "(A flame whose valve closes by that goes out in the next tick.)",
                ActSentences::letGoOfAFlame)
                .broken("found.pressed = is;", "found.pressed = is; found.flame = found.flame && state.isOpen(found);")
                .brokenIn("private void blow(", "if (!isOpen(burner)) {", "if (false) {"));
        all.add(new Sentence("Promise 7", "`burner`: a burner",
                c -> Refused.noBurner(c, "press", (x, b) -> x.press(b, false)))
                .brokenIn("public int press(", "return UNKNOWN;", "return BAD_VALUE;"));
        all.add(new Sentence("Promise 7", "Returns 1 if the valve is open then, otherwise 0; UNKNOWN; " + NONE_IF_SO,
                ActSentences::pressAnswers)
                .broken("return oneIf(state.isOpen(found));\n    }", "return oneIf(is);\n    }")
                .broken("return oneIf(state.isOpen(found));\n    }", "return oneIf(is && found.tap != 0);\n    }")
                .broken("if (found.pressed == is) {", "if (false) {"));
        all.add(new Sentence("Promise 8", "`burner`: a burner",
                c -> Refused.noBurner(c, "igniter", (x, b) -> x.igniter(b, false)))
                .brokenIn("public int igniter(", "return UNKNOWN;", "return BAD_VALUE;"));
        all.add(new Sentence("Promise 8", "Returns how many igniters are on then; UNKNOWN; " + NONE_IF_SO,
                ActSentences::igniterAnswers)
                .broken("if (found.igniter == is) {", "if (false) {")
                .broken("return state.ignitersOn();", "return oneIf(is);")
                .broken("number += oneIf(burner.igniter);", "number |= oneIf(burner.igniter);"));
    }

    private static void addLight(List<Sentence> all) {
        String promise = "Promise 9";
        all.add(new Sentence(promise, "Lights a burner by hand. This is an act (also if it is not lit by that).",
                ActSentences::lightIsAnAct)
                .brokenIn("public int light(", "history.record(state);\n        if (state.draft() > found.strength()) {\n"
                        + "            return 0;\n        }", "if (state.draft() > found.strength()) {\n"
                        + "            return 0;\n        }\n        history.record(state);")
                .brokenIn("public int light(", "history.record(state);", ""));
        all.add(new Sentence(promise, "`burner`: a burner", c -> Refused.noBurner(c, "light", FlameGuards::light))
                .brokenIn("public int light(", "return UNKNOWN;", "return NOT_POSSIBLE;"));
        all.add(new Sentence(promise, "Returns 1 if it is lit (its tries are 0 then; an event)", ActSentences::litByHand)
                .brokenIn("void kindle(", "burner.tries = 0;", "")
                .brokenIn("void kindle(", "log.note(Log.LIT, index, tick);", "")
                .brokenIn("void kindle(", "burner.flame = true;", "")
                .brokenIn("public int light(", "return 1;", "return 0;"));
        all.add(new Sentence(promise, "0 if the draft of the next tick is greater than its strength (its tries stay)",
                ActSentences::lightInADraft)
                .brokenIn("public int light(", "state.draft() > found.strength()", "state.draft() >= found.strength()")
                .brokenIn("public int light(", "state.draft() > found.strength()", "state.draft() > found.strength() + 1")
                .brokenIn("public int light(", "state.draft()", "state.drafts.draftIn(state.tick + 1)")
                .brokenIn("public int light(", "state.draft()", "state.drafts.draftIn(state.tick - 1)")
                .brokenIn("public int light(", "return 0;", "found.tries = 0; return 0;")
                .brokenIn("public int light(", "return 0;", "found.tries++; return 0;"));
        all.add(new Sentence(promise, "NOT_POSSIBLE if its valve is not open, it has a flame, or the gas in the room is not"
                + " less than the limit.", ActSentences::lightNotPossible)
                .brokenIn("public int light(", "!state.isOpen(found) || ", "")
                .brokenIn("public int light(", "!state.isOpen(found)", "found.tap == Burner.OFF")
                .brokenIn("public int light(", "!state.isOpen(found)", "!found.pressed")
                .brokenIn("public int light(", "found.flame || ", "")
                .brokenIn("public int light(", " || !state.allowsFire()", "")
                .broken("gas < settings.valueOf(Settings.LIMIT)", "gas <= settings.valueOf(Settings.LIMIT)")
                .broken("gas < settings.valueOf(Settings.LIMIT)", "gas < settings.valueOf(Settings.LIMIT) - 1"));
    }

    private static void addUnlock(List<Sentence> all) {
        String promise = "Promise 10";
        all.add(new Sentence(promise, "Takes the lock of a burner off; its tries are 0 then.", ActSentences::unlocked)
                .brokenIn("public int unlock(", "found.tries = 0;", "")
                .brokenIn("public int unlock(", "found.locked = false;", ""));
        all.add(new Sentence(promise, "`burner`: a burner", c -> Refused.noBurner(c, "unlock", FlameGuards::unlock))
                .brokenIn("public int unlock(", "return UNKNOWN;", "return NOT_POSSIBLE;"));
        all.add(new Sentence(promise, "Returns how many burners are locked then", ActSentences::lockedThen)
                .brokenIn("public int unlock(", "return state.lockedBurners();", "return state.lockedBurners() + 1;")
                .broken("number += oneIf(burner.locked);", "number |= oneIf(burner.locked);"));
        all.add(new Sentence(promise, "NOT_POSSIBLE if it is not locked, or its tap is not off.",
                ActSentences::unlockNotPossible)
                .broken("!found.locked || found.tap != Burner.OFF", "!found.locked")
                .broken("!found.locked || found.tap != Burner.OFF", "found.tap != Burner.OFF")
                .broken("!found.locked || found.tap != Burner.OFF", "!found.locked || found.tap == Burner.LOW")
                .broken("!found.locked || found.tap != Burner.OFF", "!found.locked || found.tap == Burner.HIGH"));
    }

    private static void addPass(List<Sentence> all) {
        String promise = "Promise 11";
        all.add(new Sentence(promise, "`ticks`: 1 to 200", ActSentences::oneToTwoHundredTicks)
                .broken("MOST_TICKS_A_CALL = 200", "MOST_TICKS_A_CALL = 199")
                .broken("MOST_TICKS_A_CALL = 200", "MOST_TICKS_A_CALL = 201")
                .broken("isWithin(ticks, 1, MOST_TICKS_A_CALL)", "isWithin(ticks, 0, MOST_TICKS_A_CALL)")
                .broken("isWithin(ticks, 1, MOST_TICKS_A_CALL)", "isWithin(ticks, 2, MOST_TICKS_A_CALL)")
                .broken("isWithin(ticks, 1, MOST_TICKS_A_CALL)", "(ticks != 0 && ticks <= MOST_TICKS_A_CALL)")
                .brokenIn("public int pass(", "i < ticks", "i <= ticks"));
        all.add(new Sentence(promise, "Returns how many events there are in them", ActSentences::eventsInThem)
                .broken("return state.log.total() - eventsBefore;", "return state.log.total();")
                .broken("return state.log.total() - eventsBefore;", "return Math.min(10, state.log.total() - eventsBefore);")
                .broken("return state.log.total() - eventsBefore;",
                        "return state.log.total() == eventsBefore ? NONE : state.log.total() - eventsBefore;"));
        all.add(new Sentence(promise, "FULL if the tick would be more than 99999.", ActSentences::lastTick)
                .broken("LAST_TICK = 99999", "LAST_TICK = 99998")
                .broken("LAST_TICK = 99999", "LAST_TICK = 100000")
                .broken("state.tick + ticks > LAST_TICK", "state.tick >= LAST_TICK")
                .broken("state.tick + ticks > LAST_TICK", "state.tick > LAST_TICK - MOST_TICKS_A_CALL")
                .brokenIn("public int pass(", "return FULL;", "history.record(state); return FULL;"));
    }

    private static void coldStove(Check c) {
        FlameGuards other = Given.rich();
        other.pass(50);
        FlameGuards x = new FlameGuards();
        int[] kinds = {Given.SMALL, Given.SMALL, Given.LARGE, Given.WIDE};
        int[] settings = {300, 5, 5, 300};
        for (int burner = 0; burner < 4; burner++) {
            c.due("kind", x.burner(burner, 0), kinds[burner]);
            for (int what = 1; what <= 11; what++) {
                c.due("burner(" + burner + ", " + what + ")", x.burner(burner, what), 0);
            }
            c.due("setting", x.setting(burner), settings[burner]);
        }
        for (int what = 0; what <= 14; what++) {
            c.due("count(" + what + ")", x.count(what), 0);
        }
        c.due("no event", x.event(0, 0), FlameGuards.NONE);
        c.due("no entry", x.entry(0, 0), FlameGuards.NONE);
        c.due("no snapshot", x.restore(), FlameGuards.NONE);
        c.due("no history", x.undo(), FlameGuards.NONE);
        c.due("no text", x.clearText(), 0);
        c.due("clear", x.clearIn(), 0);
        c.due("nothing happens", x.pass(200), 0);
        c.due("no gas", x.count(11), 0);
    }

    private static void settingsFromZeroToThree(Check c) {
        int[] firsts = {300, 5, 5, 300};
        for (int which = 0; which <= 3; which++) {
            FlameGuards x = new FlameGuards();
            c.due("set(" + which + ", ..)", x.set(which, firsts[which] + 1), firsts[which]);
            c.due("the setting", x.setting(which), firsts[which] + 1);
        }
        for (int which : new int[] {Integer.MIN_VALUE, -1, 4, Integer.MAX_VALUE}) {
            for (int value : new int[] {-1, 0, 5, 100, 300, Integer.MAX_VALUE}) {
                c.due("set(" + which + ", " + value + ")", new FlameGuards().set(which, value), FlameGuards.UNKNOWN);
            }
            Refused.due(c, "set(" + which + ", 300)", Given::rich, x -> x.set(which, 300), FlameGuards.UNKNOWN);
        }
    }

    private static void valuesInTheirRange(Check c) {
        int[] least = {100, 1, 0, 50};
        int[] most = {450, 20, 50, 1000};
        for (int i = 0; i <= 3; i++) {
            int which = i;
            for (int value : new int[] {Integer.MIN_VALUE, -1000, least[which] - 1, most[which] + 1, 10000,
                Integer.MAX_VALUE}) {
                Refused.due(c, "set(" + which + ", " + value + ")", Given::rich, x -> x.set(which, value),
                        FlameGuards.BAD_VALUE);
            }
            FlameGuards x = new FlameGuards();
            c.isTrue("the least", x.set(which, least[which]) > 0);
            c.due("the most", x.set(which, most[which]), least[which]);
            c.due("the least again", x.set(which, least[which]), most[which]);
        }
    }

    private static void setAsItIs(Check c) {
        int[] first = {300, 5, 5, 300};
        for (int i = 0; i <= 3; i++) {
            int which = i;
            Refused.due(c, "set as at first", FlameGuards::new, x -> x.set(which, first[which]), FlameGuards.NONE);
            FlameGuards x = new FlameGuards();
            c.due("set", x.set(which, first[which] + 1), first[which]);
            c.due("set as it is", x.set(which, first[which] + 1), FlameGuards.NONE);
            c.due("set back", x.set(which, first[which]), first[which] + 1);
            c.due("acts", x.count(13), 2);
        }
    }

    private static void kindsFromZeroToTwo(Check c) {
        for (int from = 0; from <= 2; from++) {
            for (int to = 0; to <= 2; to++) {
                if (from != to) {
                    FlameGuards x = new FlameGuards();
                    x.setKind(1, from);
                    c.due("setKind", x.setKind(1, to), from);
                    c.due("kind", x.burner(1, 0), to);
                }
            }
        }
        for (int kind : WRONG_KINDS_AND_TAPS) {
            Refused.due(c, "setKind(2, " + kind + ")", FlameGuards::new, x -> x.setKind(2, kind), FlameGuards.BAD_VALUE);
        }
    }

    private static void kindOfATurnedOne(Check c) {
        for (int tap = Given.LOW; tap <= Given.HIGH; tap++) {
            FlameGuards x = new FlameGuards();
            x.turn(0, tap);
            c.due("turned", x.setKind(0, 1), FlameGuards.NOT_POSSIBLE);
            c.due("turned, as it is", x.setKind(0, 0), FlameGuards.NOT_POSSIBLE);
            Given.burn(x, 0, tap);
            c.due("burning", x.setKind(0, 2), FlameGuards.NOT_POSSIBLE);
            c.due("kind", x.burner(0, 0), 0);
            c.due("another one", x.setKind(1, 2), 0);
            x.turn(0, Given.OFF);
            c.due("turned off, pressed", x.setKind(0, 2), 0);
        }
    }

    private static void kindAsItIs(Check c) {
        int[] kinds = {Given.SMALL, Given.SMALL, Given.LARGE, Given.WIDE};
        for (int i = 0; i < 4; i++) {
            int burner = i;
            Refused.due(c, "setKind as at first", FlameGuards::new, x -> x.setKind(burner, kinds[burner]),
                    FlameGuards.NONE);
        }
        FlameGuards x = new FlameGuards();
        c.due("setKind", x.setKind(0, 2), 0);
        c.due("setKind as it is", x.setKind(0, 2), FlameGuards.NONE);
        c.due("setKind back", x.setKind(0, 0), 2);
    }

    private static void plannedTicks(Check c) {
        for (int tick : new int[] {0, 1, 9998, 9999}) {
            FlameGuards x = new FlameGuards();
            c.due("plan(" + tick + ", 3)", x.plan(tick, 3), 1);
            c.due("its tick", x.entry(0, 0), tick);
        }
        for (int tick : new int[] {Integer.MIN_VALUE, -1, 10000, Integer.MAX_VALUE}) {
            Refused.due(c, "plan(" + tick + ", 3)", Given::rich, x -> x.plan(tick, 3), FlameGuards.BAD_VALUE);
        }
    }

    private static void plannedDrafts(Check c) {
        for (int draft = 0; draft <= 9; draft++) {
            FlameGuards x = new FlameGuards();
            c.due("plan(7, " + draft + ")", x.plan(7, draft), 1);
            c.due("its draft", x.entry(0, 1), draft);
        }
        for (int draft : new int[] {Integer.MIN_VALUE, -1, 10, Integer.MAX_VALUE}) {
            Refused.due(c, "plan(7, " + draft + ")", Given::rich, x -> x.plan(7, draft), FlameGuards.BAD_VALUE);
        }
    }

    private static void entryReplaced(Check c) {
        FlameGuards x = new FlameGuards();
        int[] ticks = {30, 10, 20};
        for (int i = 0; i < 3; i++) {
            c.due("a new entry", x.plan(ticks[i], 1), i + 1);
        }
        for (int i = 0; i < 3; i++) {
            c.due("one in its place", x.plan(ticks[i], 5 + i), 3);
        }
        int[] drafts = {6, 7, 5};
        for (int place = 0; place < 3; place++) {
            c.due("tick", x.entry(place, 0), 10 * (place + 1));
            c.due("draft", x.entry(place, 1), drafts[place]);
        }
        c.due("no more", x.entry(3, 0), FlameGuards.NONE);
    }

    private static void thirteenthEntry(Check c) {
        FlameGuards eleven = new FlameGuards();
        for (int size = 1; size <= 11; size++) {
            eleven.plan(size, 1);
        }
        c.due("the twelfth", eleven.plan(0, 1), 12);
        for (int tick : new int[] {0, 9, 11, 119, 121, 9999}) {
            Refused.due(c, "a thirteenth in " + tick, Given::withFullPlan, x -> x.plan(tick, 1), FlameGuards.FULL);
        }
        for (int tick : new int[] {10, 60, 120}) {
            FlameGuards x = Given.withFullPlan();
            c.due("another draft in " + tick, x.plan(tick, 2), 12);
            c.due("the draft", x.entry(tick / 10 - 1, 1), 2);
        }
    }

    private static void sameEntry(Check c) {
        FlameGuards x = new FlameGuards();
        c.due("a draft of 0 in an empty plan", x.plan(0, 0), 1);
        c.due("again", x.plan(0, 0), FlameGuards.NONE);
        c.due("another draft", x.plan(0, 1), 1);
        c.due("again", x.plan(0, 1), FlameGuards.NONE);
        c.due("another tick", x.plan(1, 1), 2);
        c.due("acts", x.count(13), 3);
        for (int tick : new int[] {10, 60, 120}) {
            Refused.due(c, "the same of twelve", Given::withFullPlan, y -> y.plan(tick, 1), FlameGuards.NONE);
        }
    }

    private static void turnedOff(Check c) {
        FlameGuards x = Given.burning(Given.SMALL, Given.LOW);
        c.due("turned high", x.turn(0, Given.HIGH), Given.LOW);
        c.due("the flame stays", x.burner(0, 4), 1);
        c.due("turned low", x.turn(0, Given.LOW), Given.HIGH);
        c.due("the flame stays", x.burner(0, 4), 1);
        c.due("turned off", x.turn(0, Given.OFF), Given.LOW);
        c.due("the flame is out", x.burner(0, 4), 0);
        c.due("flames", x.count(8), 0);
        c.due("the latest event", x.event(0, 0), 0);
        c.due("events", x.event(1, 0), FlameGuards.NONE);
        x.turn(0, Given.HIGH);
        c.due("it stays out", x.burner(0, 4), 0);
    }

    private static void tapsFromZeroToTwo(Check c) {
        for (int from = 0; from <= 2; from++) {
            for (int to = 0; to <= 2; to++) {
                FlameGuards x = new FlameGuards();
                x.turn(3, from);
                c.due("turn", x.turn(3, to), from == to ? FlameGuards.NONE : from);
                c.due("tap", x.burner(3, 1), to);
            }
        }
        for (int tap : WRONG_KINDS_AND_TAPS) {
            Refused.due(c, "turn(0, " + tap + ")", Given::rich, x -> x.turn(0, tap), FlameGuards.BAD_VALUE);
        }
    }

    private static void turnAsItIs(Check c) {
        for (int i = 0; i <= 2; i++) {
            int tap = i;
            FlameGuards x = new FlameGuards();
            x.turn(0, tap);
            int acts = x.count(13);
            c.due("turn as it is", x.turn(0, tap), FlameGuards.NONE);
            c.due("acts", x.count(13), acts);
            int other = (tap + 1) % 3;
            c.due("turn", x.turn(0, other), tap);
            c.due("turn back", x.turn(0, tap), other);
        }
        Refused.due(c, "turn as it is", Given::rich, x -> x.turn(0, Given.HIGH), FlameGuards.NONE);
        Refused.due(c, "turn off as it is", FlameGuards::new, x -> x.turn(0, Given.OFF), FlameGuards.NONE);
    }

    private static void letGoOfAFlame(Check c) {
        FlameGuards x = Given.burning(Given.SMALL, Given.LOW);
        x.pass(6);
        c.due("joint", x.burner(0, 5), 277);
        c.due("let go", x.press(0, false), 0);
        c.due("the flame is there still", x.burner(0, 4), 1);
        c.due("flames", x.count(8), 1);
        c.due("no event", x.pass(1), 0);
        c.due("the flame is out", x.burner(0, 4), 0);
        c.due("the joint cools in that tick", x.burner(0, 5), 249);

        FlameGuards y = Given.burning(Given.SMALL, Given.LOW);
        y.pass(7);
        y.press(0, false);
        y.pass(1);
        c.due("warm enough, the flame stays", y.burner(0, 4), 1);

        FlameGuards z = Given.burning(Given.SMALL, Given.LOW);
        z.press(0, false);
        z.press(0, true);
        z.pass(1);
        c.due("pressed again ahead of the tick", z.burner(0, 4), 1);
    }

    private static void pressAnswers(Check c) {
        FlameGuards x = new FlameGuards();
        c.due("pressed with the tap off", x.press(0, true), 0);
        c.due("pressed already", x.press(0, true), FlameGuards.NONE);
        c.due("let go with the tap off", x.press(0, false), 0);
        c.due("let go already", x.press(0, false), FlameGuards.NONE);
        c.due("acts", x.count(13), 2);
        x.turn(0, Given.LOW);
        c.due("pressed", x.press(0, true), 1);
        c.due("let go of a cold one", x.press(0, false), 0);
        Given.burn(x, 0, Given.LOW);
        x.pass(7);
        x.set(0, 305);
        c.due("let go at the threshold", x.press(0, false), 1);
        c.due("pressed at the threshold", x.press(0, true), 1);
        x.set(0, 306);
        c.due("let go 1 below the threshold", x.press(0, false), 0);
        c.due("let go of a locked one", Given.withLock().press(3, false), 0);
        FlameGuards y = Given.withLock();
        y.press(3, false);
        c.due("pressed, locked", y.press(3, true), 0);
    }

    private static void igniterAnswers(Check c) {
        FlameGuards x = new FlameGuards();
        for (int burner = 0; burner < 4; burner++) {
            c.due("off already", x.igniter(burner, false), FlameGuards.NONE);
        }
        for (int burner = 0; burner < 4; burner++) {
            c.due("on", x.igniter(burner, true), burner + 1);
            c.due("on already", x.igniter(burner, true), FlameGuards.NONE);
        }
        for (int burner = 0; burner < 4; burner++) {
            c.due("off", x.igniter(burner, false), 3 - burner);
            c.due("off already", x.igniter(burner, false), FlameGuards.NONE);
        }
        FlameGuards y = new FlameGuards();
        y.igniter(0, false);
        c.due("acts", y.count(13), 0);
    }

    private static FlameGuards openInADraft(int tap, int draft) {
        FlameGuards x = new FlameGuards();
        Given.open(x, 0, tap);
        x.plan(0, draft);
        return x;
    }

    private static void lightIsAnAct(Check c) {
        FlameGuards x = openInADraft(Given.LOW, 3);
        c.due("acts ahead", x.count(13), 3);
        c.due("not lit", x.light(0), 0);
        c.due("acts", x.count(13), 4);
        x.undo();
        c.due("undo of that", x.count(13), 3);
        c.due("the plan is as it was", x.count(2), 3);
        x.plan(0, 2);
        x.undo();
        x.undo();
        c.due("the plan's undo", x.count(2), 0);
        c.due("lit", x.light(0), 1);
        c.due("acts", x.count(13), 3);
        x.undo();
        c.due("undo of that", x.burner(0, 4), 0);
        c.due("the event is gone", x.event(0, 0), FlameGuards.NONE);
    }

    private static void litByHand(Check c) {
        FlameGuards x = openInADraft(Given.LOW, 3);
        x.igniter(0, true);
        x.pass(3);
        c.due("tries", x.burner(0, 8), 3);
        x.plan(3, 2);
        c.due("light", x.light(0), 1);
        c.due("flame", x.burner(0, 4), 1);
        c.due("tries then", x.burner(0, 8), 0);
        c.due("lit so far", x.count(4), 1);
        c.due("event", x.event(0, 0), 0);
        c.due("event's burner", x.event(0, 1), 0);
        c.due("event's tick", x.event(0, 2), 3);
        c.due("one event", x.event(1, 0), FlameGuards.NONE);
        c.due("no further event in the tick", x.pass(1), 0);
        c.due("it warms in that tick", x.burner(0, 5), 63);
    }

    private static void lightInADraft(Check c) {
        for (int i = 0; i < 6; i++) {
            for (int more = -1; more <= 1; more++) {
                FlameGuards x = new FlameGuards();
                x.setKind(0, i / 2);
                Given.open(x, 0, i % 2 + 1);
                x.plan(0, Given.STRENGTHS[i] + more);
                c.due("light", x.light(0), more > 0 ? 0 : 1);
                c.due("flame", x.burner(0, 4), more > 0 ? 0 : 1);
                c.due("lit so far", x.count(4), more > 0 ? 0 : 1);
            }
        }
        FlameGuards x = openInADraft(Given.LOW, 3);
        x.igniter(0, true);
        x.pass(2);
        c.due("light", x.light(0), 0);
        c.due("its tries stay", x.burner(0, 8), 2);
        FlameGuards y = openInADraft(Given.LOW, 0);
        y.plan(1, 9);
        y.plan(2, 0);
        y.pass(1);
        c.due("the draft of the next tick", y.light(0), 0);
        y.pass(1);
        c.due("a draft that is past", y.light(0), 1);
        FlameGuards z = openInADraft(Given.LOW, 0);
        z.plan(1, 9);
        c.due("a draft to come", z.light(0), 1);
    }

    private static void lightNotPossible(Check c) {
        Refused.due(c, "light with the tap off", FlameGuards::new, x -> x.light(0), FlameGuards.NOT_POSSIBLE);
        Refused.due(c, "light of a locked one", Given::withLock, x -> x.light(3), FlameGuards.NOT_POSSIBLE);
        Refused.due(c, "light with a flame", Given::rich, x -> x.light(0), FlameGuards.NOT_POSSIBLE);
        FlameGuards x = new FlameGuards();
        x.turn(0, Given.LOW);
        c.due("not pressed", x.light(0), FlameGuards.NOT_POSSIBLE);
        x.press(0, true);
        c.due("pressed", x.light(0), 1);
        x.pass(7);
        x.turn(0, Given.OFF);
        x.press(0, false);
        x.turn(0, Given.LOW);
        x.set(0, 306);
        c.due("1 below the threshold", x.light(0), FlameGuards.NOT_POSSIBLE);
        x.set(0, 305);
        c.due("at the threshold", x.light(0), 1);
        for (int more = -1; more <= 1; more++) {
            FlameGuards y = Given.withGas(100 + more);
            y.set(3, 100);
            Given.open(y, 0, Given.LOW);
            c.due("light in gas of 100 and " + more, y.light(0), more < 0 ? 1 : FlameGuards.NOT_POSSIBLE);
        }
        FlameGuards z = openInADraft(Given.LOW, 3);
        z.press(0, false);
        c.due("a closed valve in a draft", z.light(0), FlameGuards.NOT_POSSIBLE);
    }

    /** Two locked burners, 2 and 3, with one try each. */
    private static FlameGuards withTwoLocks() {
        FlameGuards x = Given.withLock();
        x.igniter(2, true);
        Given.open(x, 2, Given.HIGH);
        x.pass(1);
        return x;
    }

    private static void unlocked(Check c) {
        FlameGuards x = withTwoLocks();
        x.turn(3, Given.OFF);
        c.due("tries ahead", x.burner(3, 8), 1);
        c.due("unlock", x.unlock(3), 1);
        c.due("not locked", x.burner(3, 7), 0);
        c.due("tries then", x.burner(3, 8), 0);
        c.due("the other one's tries", x.burner(2, 8), 1);
        c.due("the other one's lock", x.burner(2, 7), 1);
        x.plan(0, 0);
        x.turn(3, Given.LOW);
        c.due("it can be lit again", x.light(3), 1);
    }

    private static void lockedThen(Check c) {
        FlameGuards x = withTwoLocks();
        c.due("locked", x.count(10), 2);
        x.turn(2, Given.OFF);
        x.turn(3, Given.OFF);
        c.due("one is left", x.unlock(2), 1);
        c.due("none is left", x.unlock(3), 0);
        FlameGuards y = new FlameGuards();
        y.set(1, 1);
        y.plan(0, 9);
        for (int burner = 0; burner < 4; burner++) {
            y.igniter(burner, true);
            Given.open(y, burner, Given.LOW);
        }
        c.due("four are locked", y.pass(1), 4);
        y.turn(0, Given.OFF);
        c.due("three are left", y.unlock(0), 3);
    }

    private static void unlockNotPossible(Check c) {
        Refused.due(c, "unlock of a new one", FlameGuards::new, x -> x.unlock(0), FlameGuards.NOT_POSSIBLE);
        Refused.due(c, "unlock with the tap low", Given::withLock, x -> x.unlock(3), FlameGuards.NOT_POSSIBLE);
        Refused.due(c, "unlock with the tap high", ActSentences::withTwoLocks, x -> x.unlock(2), FlameGuards.NOT_POSSIBLE);
        FlameGuards x = Given.withLock();
        x.turn(3, Given.OFF);
        c.due("with the tap off", x.unlock(3), 0);
        c.due("once more", x.unlock(3), FlameGuards.NOT_POSSIBLE);
    }

    private static void oneToTwoHundredTicks(Check c) {
        for (int ticks : new int[] {1, 2, 199, 200}) {
            FlameGuards x = new FlameGuards();
            c.due("pass(" + ticks + ")", x.pass(ticks), 0);
            c.due("tick", x.count(0), ticks);
        }
        for (int ticks : new int[] {Integer.MIN_VALUE, -1, 0, 201, Integer.MAX_VALUE}) {
            Refused.due(c, "pass(" + ticks + ")", Given::rich, x -> x.pass(ticks), FlameGuards.BAD_VALUE);
        }
    }

    /** In even ticks from 0 to 12 there is no draft, in the odd ones between a great one. */
    private static void eventsInThem(Check c) {
        FlameGuards x = new FlameGuards();
        for (int burner = 0; burner < 4; burner++) {
            x.igniter(burner, true);
            Given.open(x, burner, Given.LOW);
        }
        for (int tick = 1; tick <= 12; tick++) {
            x.plan(tick, tick % 2 * 9);
        }
        c.due("four are lit", x.pass(1), 4);
        c.due("48 events in twelve ticks", x.pass(12), 48);
        c.due("lit", x.count(4), 28);
        c.due("blown out", x.count(5), 24);
        c.due("no more", x.pass(5), 0);
        x.undo();
        x.undo();
        c.due("the same again, tick by tick", x.pass(1), 4);
        c.due("the same again, tick by tick", x.pass(11), 44);
        c.due("no events at all", new FlameGuards().pass(200), 0);
    }

    private static void lastTick(Check c) {
        FlameGuards x = Given.atTick(99998);
        c.due("tick", x.count(0), 99998);
        c.due("2 ticks are too many", x.pass(2), FlameGuards.FULL);
        c.due("tick", x.count(0), 99998);
        c.due("one tick", x.pass(1), 0);
        c.due("one more", x.pass(1), FlameGuards.FULL);
        c.due("200 more", x.pass(200), FlameGuards.FULL);
        c.due("tick", x.count(0), 99999);
        c.due("undo of the last tick", x.undo(), 3);
        c.due("tick", x.count(0), 99998);
        FlameGuards y = Given.atTick(99800);
        c.due("200 ticks", y.pass(200), FlameGuards.FULL);
        c.due("199 ticks", y.pass(199), 0);
        c.due("tick", y.count(0), 99999);
        FlameGuards z = Given.atTick(99799);
        c.due("200 ticks", z.pass(200), 0);
        c.due("tick", z.count(0), 99999);
    }
}
