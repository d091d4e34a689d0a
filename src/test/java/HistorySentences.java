import java.util.List;
import java.util.function.Supplier;
import java.util.function.ToIntFunction;

/** The sentences on history and errors: of the terms, and of promises 14 to 16. */
final class HistorySentences {
    private static final String TERMS = "Terms";

    private HistorySentences() {
    }

    static void addTo(List<Sentence> all) {
        addHistory(all);
        addState(all);
        addErrors(all);
        addPromises(all);
    }

    private static void addHistory(List<Sentence> all) {
        all.add(new Sentence(TERMS, "A history of at most 4 states is kept; when one more is recorded, the oldest one is"
                + " dropped", HistorySentences::fourStates)
                .broken("MOST_STATES = 4", "MOST_STATES = 3")
                .broken("MOST_STATES = 4", "MOST_STATES = 5")
                .broken("                dropOldest();\n", "                return;\n")
                .broken("                dropOldest();\n", "                size--;\n"));
        all.add(new Sentence(TERMS, "undo() removes and restores the latest one.", HistorySentences::undoTakesTheLatest)
                .broken("            size--;\n            state.copyFrom(states[size]);",
                        "            state.copyFrom(states[size - 1]);")
                .broken("state.copyFrom(states[size]);", "state.copyFrom(states[0]);")
                .broken("state.copyFrom(states[size]);", ""));
        Sentence acts = new Sentence(TERMS, "Each call of a method that is described as an act, and returns no error and not"
                + " NONE, records the state that was before it.", HistorySentences::actsRecord)
                .brokenIn("public int clearText(", "text.empty();", "text.empty(); history.record(state);")
                .brokenIn("public int keep(", "return state.tick;", "history.record(state); return state.tick;")
                .brokenIn("public int type(", "return text.length;", "history.record(state); return text.length;")
                .brokenIn("public int light(", "if (state.draft() > found.strength()) {\n            return 0;",
                        "if (state.draft() > found.strength()) {\n            undo();\n            return 0;");
        for (String act : new String[] {"set", "setKind", "plan", "readPlan", "turn", "press", "igniter", "light", "unlock",
            "pass", "restore"}) {
            acts.brokenIn("public int " + act + "(", "history.record(state);", "");
        }
        all.add(acts);
        all.add(new Sentence(TERMS, "There is one snapshot, empty at first.", HistorySentences::oneSnapshot)
                .brokenIn("public FlameGuards() {", "hasSnapshot = false;", "hasSnapshot = true;")
                .broken("snapshot.copyFrom(state);", "if (!hasSnapshot) {\n            snapshot.copyFrom(state);\n        }"));
    }

    private static void addState(List<Sentence> all) {
        Sentence state = new Sentence(TERMS, "A state is everything but the text, the history and the snapshot.",
                HistorySentences::everythingElse)
                .broken("if (!history.takeBack(state)) {", "text.empty(); if (!history.takeBack(state)) {")
                .broken("state.copyFrom(snapshot);", "state.copyFrom(snapshot); text.empty();")
                .broken("state.copyFrom(snapshot);", "state.copyFrom(snapshot); history.size = 0;")
                .brokenIn("public int undo() {", "return history.size;", "hasSnapshot = false; return history.size;");
        for (String copied : new String[] {"settings.copyFrom(other.settings);", "burners[i].copyFrom(other.burners[i]);",
            "drafts.copyFrom(other.drafts);", "log.copyFrom(other.log);", "gas = other.gas;", "mostGas = other.mostGas;",
            "mostDark = other.mostDark;", "kind = other.kind;", "tap = other.tap;", "pressed = other.pressed;",
            "igniter = other.igniter;", "flame = other.flame;", "temperature = other.temperature;",
            "locked = other.locked;", "tries = other.tries;", "dark = other.dark;", "unburnt = other.unburnt;",
            "size = other.size;",
            "copyRow(other.events, events);", "copyRow(other.burners, burners);", "copyRow(other.counts, counts);",
            "known = other.known;", "tick = other.tick;"}) {
            state.broken(copied, "");
        }
        state.brokenIn("void copyFrom(Settings other) {", "copyRow(other.values, values);", "");
        state.brokenIn("void copyFrom(Plan other) {", "copyRow(other.values, values);", "");
        state.brokenIn("void copyFrom(Plan other) {", "copyRow(other.ticks, ticks);", "");
        state.brokenIn("void copyFrom(Log other) {", "copyRow(other.ticks, ticks);", "");
        all.add(state);
    }

    private static void addErrors(List<Sentence> all) {
        all.add(new Sentence(TERMS, "Where several errors can apply, the order of the @return line is the order of the"
                + " checks.", HistorySentences::orderOfChecks)
                .broken("        if (!Settings.isOne(which)) {\n            return UNKNOWN;\n        }\n"
                        + "        if (!Settings.allows(which, value)) {",
                        "        if (value < 0) {\n            return BAD_VALUE;\n        }\n"
                        + "        if (!Settings.isOne(which)) {\n            return UNKNOWN;\n        }\n"
                        + "        if (!Settings.allows(which, value)) {")
                .brokenIn("public int setKind(", "if (found == null) {",
                        "if (kind > 2) {\n            return BAD_VALUE;\n        }\n        if (found == null) {")
                .brokenIn("public int setKind(", "if (!isWithin(kind",
                        "if (found.tap != 0) {\n            return NOT_POSSIBLE;\n        }\n        if (!isWithin(kind")
                .brokenIn("public int plan(", "if (!isWithin(tick",
                        "if (state.drafts.size == 12) {\n            return FULL;\n        }\n        if (!isWithin(tick")
                .brokenIn("public int readPlan(", "if (fault != Text.NO_FAULT) {",
                        "if (text.length > 54) {\n            return FULL;\n        }\n        if (fault != Text.NO_FAULT) {")
                .brokenIn("public int turn(", "if (found == null) {",
                        "if (tap > 2) {\n            return BAD_VALUE;\n        }\n        if (found == null) {")
                .brokenIn("public int pass(", "if (!isWithin(ticks",
                        "if (state.tick == LAST_TICK) {\n            return FULL;\n        }\n        if (!isWithin(ticks")
                .brokenIn("public int burner(", "if (found == null) {",
                        "if (what > 11) {\n            return BAD_VALUE;\n        }\n        if (found == null) {")
                .brokenIn("public int toPress(", "if (found == null) {",
                        "if (tap > 2) {\n            return BAD_VALUE;\n        }\n        if (found == null) {"));
        all.add(new Sentence(TERMS, "NONE is no error; it is returned only if no error applies.",
                HistorySentences::noneComesLast)
                .brokenIn("public int setKind(", "if (found.tap != Burner.OFF) {",
                        "if (found.kind == kind) {\n            return NONE;\n        }\n"
                        + "        if (found.tap != Burner.OFF) {")
                .brokenIn("public int entry(", "if (place < 0",
                        "if (place >= state.drafts.size) {\n            return NONE;\n        }\n        if (place < 0")
                .brokenIn("public int event(", "if (back < 0",
                        "if (back >= state.log.known) {\n            return NONE;\n        }\n        if (back < 0")
                .brokenIn("public int press(", "return UNKNOWN;", "return is ? UNKNOWN : NONE;")
                .brokenIn("public int igniter(", "return UNKNOWN;", "return is ? UNKNOWN : NONE;")
                .brokenIn("public int turn(", "return UNKNOWN;", "return tap == 0 ? NONE : UNKNOWN;")
                .brokenIn("public int blownIn(", "if (found.tap == Burner.OFF) {\n            return NOT_POSSIBLE;",
                        "if (found.tap == Burner.OFF) {\n            return NONE;"));
        Sentence refused = new Sentence(TERMS, "A call that returns an error or NONE changes nothing.",
                HistorySentences::refusedCalls);
        for (String act : new String[] {"set", "setKind", "turn", "press", "igniter", "light", "unlock"}) {
            refused.brokenIn("public int " + act + "(", "return UNKNOWN;", "history.record(state); return UNKNOWN;");
        }
        for (String act : new String[] {"set", "setKind", "plan", "turn", "press", "igniter"}) {
            refused.brokenIn("public int " + act + "(", "return NONE;", "history.record(state); return NONE;");
        }
        for (String act : new String[] {"set", "setKind", "plan", "turn", "pass", "entry", "event", "toPress"}) {
            refused.brokenIn("public int " + act + "(", "return BAD_VALUE;", "history.record(state); return BAD_VALUE;");
        }
        for (String act : new String[] {"setKind", "light", "unlock", "staysOpen", "blownIn"}) {
            refused.brokenIn("public int " + act + "(", "return NOT_POSSIBLE;", "state.gas++; return NOT_POSSIBLE;");
        }
        for (String act : new String[] {"plan", "readPlan", "type"}) {
            refused.brokenIn("public int " + act + "(", "return FULL;", "hasSnapshot = false; return FULL;");
        }
        all.add(refused.brokenIn("public int undo(", "return NONE;", "text.empty(); return NONE;")
                .brokenIn("public int restore(", "return NONE;", "history.record(state); return NONE;")
                .broken("return FAULT_BASE - fault;", "text.empty(); return FAULT_BASE - fault;")
                .broken("trial.copyFrom(state);\n        for (", "history.record(state);\n        trial.copyFrom(state);"
                        + "\n        for ("));
    }

    private static void addPromises(List<Sentence> all) {
        all.add(new Sentence("Promise 14", "Returns the number of states that are left; NONE if the history is empty.",
                HistorySentences::undoOfNothing)
                .brokenIn("public int undo(", "return NONE;", "return 0;")
                .brokenIn("public int undo(", "return history.size;", "return history.size + 1;")
                .brokenIn("public int undo(", "return history.size;", "return history.size == 0 ? NONE : history.size;"));
        all.add(new Sentence("Promise 15", "Takes a snapshot of the state, in place of the one that was.",
                HistorySentences::snapshotInPlace)
                .broken("snapshot.copyFrom(state);", "if (!hasSnapshot) {\n            snapshot.copyFrom(state);\n        }")
                .broken("snapshot.copyFrom(state);", ""));
        all.add(new Sentence("Promise 16", "Restores the state of the snapshot, which stays. This is an act.",
                HistorySentences::snapshotStays)
                .broken("state.copyFrom(snapshot);", "state.copyFrom(snapshot); hasSnapshot = false;")
                .brokenIn("public int restore(", "history.record(state);", "")
                .broken("state.copyFrom(snapshot);", ""));
        all.add(new Sentence("Promise 16", "Returns the tick then; NONE if there is no snapshot.",
                HistorySentences::restoreOfNothing)
                .brokenIn("public FlameGuards() {", "hasSnapshot = false;", "hasSnapshot = true;")
                .brokenIn("public int restore(", "return NONE;", "return state.tick;")
                .brokenIn("public int restore(", "return state.tick;", "return state.tick == 0 ? NONE : state.tick;"));
    }

    private static void fourStates(Check c) {
        FlameGuards x = new FlameGuards();
        c.due("states at first", x.count(13), 0);
        for (int acts = 1; acts <= 7; acts++) {
            x.pass(acts);
            c.due("states behind " + acts, x.count(13), Math.min(acts, 4));
        }
        // The ticks behind the acts: 1, 3, 6, 10, 15, 21, 28.
        int[] ticks = {21, 15, 10, 6};
        for (int i = 0; i < 4; i++) {
            c.due("undo", x.undo(), 3 - i);
            c.due("tick", x.count(0), ticks[i]);
        }
        c.due("the older ones are dropped", x.undo(), FlameGuards.NONE);
        c.due("tick", x.count(0), 6);
        for (int acts = 1; acts <= 5; acts++) {
            x.pass(1);
            c.due("states again", x.count(13), Math.min(acts, 4));
        }
        for (int i = 0; i < 4; i++) {
            x.undo();
        }
        c.due("the oldest one left", x.count(0), 7);
    }

    private static void undoTakesTheLatest(Check c) {
        FlameGuards x = new FlameGuards();
        x.turn(0, Given.LOW);
        x.turn(1, Given.HIGH);
        x.turn(0, Given.HIGH);
        x.undo();
        c.due("the latest act", x.burner(0, 1), Given.LOW);
        c.due("not the one before", x.burner(1, 1), Given.HIGH);
        x.undo();
        c.due("the one before", x.burner(1, 1), Given.OFF);
        x.turn(2, Given.LOW);
        c.due("states", x.count(13), 2);
        x.undo();
        x.undo();
        c.due("the first one", x.burner(0, 1), Given.OFF);
        c.due("no more", x.undo(), FlameGuards.NONE);
    }

    /** The call records one state, and undo() brings that state back. */
    private static void recordDue(Check c, String act, Supplier<FlameGuards> made, ToIntFunction<FlameGuards> call,
            int answer) {
        FlameGuards x = made.get();
        int states = x.count(13);
        c.due(act, call.applyAsInt(x), answer);
        c.due("states behind " + act, x.count(13), Math.min(states + 1, 4));
        x.undo();
        c.isTrue(act + ": undo brings the state back", Seen.state(x).equals(Seen.state(made.get())));
    }

    private static void noRecordDue(Check c, String name, ToIntFunction<FlameGuards> call) {
        FlameGuards x = new FlameGuards();
        x.turn(0, Given.LOW);
        x.keep();
        call.applyAsInt(x);
        c.due("states behind " + name, x.count(13), 1);
    }

    private static void actsRecord(Check c) {
        recordDue(c, "set", FlameGuards::new, x -> x.set(0, 100), 300);
        recordDue(c, "setKind", FlameGuards::new, x -> x.setKind(0, 1), 0);
        recordDue(c, "plan", FlameGuards::new, x -> x.plan(0, 1), 1);
        recordDue(c, "readPlan", HistorySentences::withText, FlameGuards::readPlan, 1);
        recordDue(c, "turn", FlameGuards::new, x -> x.turn(0, 1), 0);
        recordDue(c, "press", FlameGuards::new, x -> x.press(0, true), 0);
        recordDue(c, "igniter", FlameGuards::new, x -> x.igniter(0, true), 1);
        recordDue(c, "light", HistorySentences::withOpenValve, x -> x.light(0), 1);
        recordDue(c, "light in a draft", HistorySentences::inADraft, x -> x.light(0), 0);
        recordDue(c, "unlock", HistorySentences::withLockTurnedOff, x -> x.unlock(3), 0);
        recordDue(c, "pass", FlameGuards::new, x -> x.pass(1), 0);
        recordDue(c, "restore", HistorySentences::withSnapshot, FlameGuards::restore, 0);
        noRecordDue(c, "type", x -> x.type('1'));
        noRecordDue(c, "clearText", FlameGuards::clearText);
        noRecordDue(c, "keep", FlameGuards::keep);
        noRecordDue(c, "clearIn", FlameGuards::clearIn);
        noRecordDue(c, "staysOpen", x -> x.staysOpen(0));
        noRecordDue(c, "toPress", x -> x.toPress(0, 1));
        noRecordDue(c, "blownIn", x -> x.blownIn(0));
        noRecordDue(c, "set as it is", x -> x.set(0, 300));
        noRecordDue(c, "readPlan with a fault", FlameGuards::readPlan);
    }

    private static FlameGuards withText() {
        FlameGuards x = new FlameGuards();
        Given.typeAll(x, "1:1");
        return x;
    }

    private static FlameGuards withOpenValve() {
        FlameGuards x = new FlameGuards();
        Given.open(x, 0, Given.LOW);
        return x;
    }

    private static FlameGuards inADraft() {
        FlameGuards x = withOpenValve();
        x.plan(0, 3);
        return x;
    }

    private static FlameGuards withLockTurnedOff() {
        FlameGuards x = Given.withLock();
        x.turn(3, Given.OFF);
        return x;
    }

    private static FlameGuards withSnapshot() {
        FlameGuards x = new FlameGuards();
        x.keep();
        x.pass(9);
        return x;
    }

    private static void oneSnapshot(Check c) {
        c.due("none at first", new FlameGuards().restore(), FlameGuards.NONE);
        FlameGuards x = new FlameGuards();
        x.pass(3);
        x.keep();
        x.pass(4);
        x.keep();
        x.pass(5);
        c.due("the second one", x.restore(), 7);
        x.undo();
        c.due("the second one still", x.restore(), 7);
    }

    /** Another object than at the keep() in everything that a state holds. */
    private static FlameGuards changedBehindKeep() {
        FlameGuards x = Given.rich();
        x.clearText();
        x.turn(0, Given.OFF);
        x.turn(1, Given.OFF);
        x.turn(2, Given.HIGH);
        x.turn(3, Given.OFF);
        x.unlock(3);
        x.setKind(3, Given.SMALL);
        x.setKind(0, Given.LARGE);
        x.setKind(1, Given.LARGE);
        x.press(0, false);
        x.igniter(3, false);
        x.set(0, 333);
        x.set(1, 9);
        x.set(2, 4);
        x.set(3, 777);
        x.plan(2, 2);
        x.plan(3, 4);
        x.plan(9, 0);
        Given.typeAll(x, "2:2,4:4,8:0");
        x.pass(30);
        x.light(2);
        x.pass(1);
        return x;
    }

    private static void everythingElse(Check c) {
        FlameGuards x = changedBehindKeep();
        List<Integer> latest = Seen.state(x);
        List<Integer> kept = Seen.state(Given.rich());
        c.due("text", x.count(14), 11);
        c.due("restore", x.restore(), 5);
        c.due("the text stays", x.count(14), 11);
        c.due("the history stays", x.count(13), 4);
        List<Integer> restored = Seen.state(x);
        c.isTrue("the snapshot is another state", !restored.equals(latest) && !restored.equals(kept));
        c.isTrue("the state of the snapshot", restored.equals(Seen.state(atKeep())));
        x.type(',');
        c.due("undo", x.undo(), 3);
        c.due("the text stays", x.count(14), 12);
        c.isTrue("the state ahead of restore", Seen.state(x).equals(latest));
        c.due("the snapshot stays", x.restore(), 5);
    }

    /** The steps of Given.rich() up to its keep(). */
    private static FlameGuards atKeep() {
        FlameGuards x = new FlameGuards();
        x.set(0, 250);
        x.set(1, 2);
        x.set(2, 1);
        x.set(3, 400);
        x.setKind(1, Given.WIDE);
        x.plan(3, Given.GREATEST_DRAFT);
        x.plan(5, 0);
        Given.burn(x, 0, Given.HIGH);
        x.igniter(3, true);
        Given.open(x, 3, Given.LOW);
        Given.open(x, 2, Given.LOW);
        x.pass(5);
        return x;
    }

    private static void orderOfChecks(Check c) {
        int unknown = FlameGuards.UNKNOWN;
        int bad = FlameGuards.BAD_VALUE;
        FlameGuards x = Given.withFullPlan();
        x.turn(0, Given.LOW);
        c.due("set(4, -1)", x.set(4, -1), unknown);
        c.due("set(-1, 5000)", x.set(-1, 5000), unknown);
        c.due("setKind(4, 3)", x.setKind(4, 3), unknown);
        c.due("setKind(-1, -1)", x.setKind(-1, -1), unknown);
        c.due("setKind(0, 3), its tap low", x.setKind(0, 3), bad);
        c.due("setKind(0, -1), its tap low", x.setKind(0, -1), bad);
        c.due("plan(10000, 1) of a full plan", x.plan(10000, 1), bad);
        c.due("plan(-1, 1) of a full plan", x.plan(-1, 1), bad);
        c.due("plan(1, 10) of a full plan", x.plan(1, 10), bad);
        c.due("turn(4, 3)", x.turn(4, 3), unknown);
        c.due("turn(-1, -1)", x.turn(-1, -1), unknown);
        c.due("burner(4, 12)", x.burner(4, 12), unknown);
        c.due("burner(-1, -1)", x.burner(-1, -1), unknown);
        c.due("toPress(4, 3)", x.toPress(4, 3), unknown);
        c.due("toPress(-1, 0)", x.toPress(-1, 0), unknown);
        Given.typeAll(x, "0:0,1:0,2:0,3:0,4:0,5:0,6:0,7:0,8:0,9:0,10:0,11:0,12:0,");
        c.due("readPlan of thirteen with a fault", x.readPlan(), -155);
        FlameGuards y = Given.atTick(99999);
        c.due("pass(201) at the last tick", y.pass(201), bad);
        c.due("pass(0) at the last tick", y.pass(0), bad);
        c.due("pass(1) at the last tick", y.pass(1), FlameGuards.FULL);
    }

    private static void noneComesLast(Check c) {
        FlameGuards x = new FlameGuards();
        x.turn(0, Given.LOW);
        c.due("setKind as it is, its tap low", x.setKind(0, 0), FlameGuards.NOT_POSSIBLE);
        c.due("setKind as it is", x.setKind(1, 0), FlameGuards.NONE);
        c.due("turn(4, 0)", x.turn(4, 0), FlameGuards.UNKNOWN);
        c.due("press(4, false)", x.press(4, false), FlameGuards.UNKNOWN);
        c.due("igniter(4, false)", x.igniter(4, false), FlameGuards.UNKNOWN);
        c.due("blownIn(1), its tap off", x.blownIn(1), FlameGuards.NOT_POSSIBLE);
        c.due("blownIn(0)", x.blownIn(0), FlameGuards.NONE);
        c.due("entry(0, 2)", x.entry(0, 2), FlameGuards.BAD_VALUE);
        c.due("entry(0, -1)", x.entry(0, -1), FlameGuards.BAD_VALUE);
        c.due("entry(0, 1)", x.entry(0, 1), FlameGuards.NONE);
        c.due("event(0, 3)", x.event(0, 3), FlameGuards.BAD_VALUE);
        c.due("event(0, -1)", x.event(0, -1), FlameGuards.BAD_VALUE);
        c.due("event(0, 2)", x.event(0, 2), FlameGuards.NONE);
    }

    private static void refusedCalls(Check c) {
        refusedSettingsAndDrafts(c);
        refusedBurners(c);
        refusedTellings(c);
        Refused.due(c, "restore", FlameGuards::new, FlameGuards::restore, FlameGuards.NONE);
        Refused.due(c, "undo", HistorySentences::withUsedUpHistory, FlameGuards::undo, FlameGuards.NONE);
    }

    private static FlameGuards withUsedUpHistory() {
        FlameGuards x = Given.rich();
        for (int i = 0; i < 4; i++) {
            x.undo();
        }
        return x;
    }

    private static void refusedSettingsAndDrafts(Check c) {
        refusedDue(c, "set(4, 1)", x -> x.set(4, 1), FlameGuards.UNKNOWN);
        refusedDue(c, "set(0, 99)", x -> x.set(0, 99), FlameGuards.BAD_VALUE);
        refusedDue(c, "set(0, 250)", x -> x.set(0, 250), FlameGuards.NONE);
        refusedDue(c, "setKind(4, 1)", x -> x.setKind(4, 1), FlameGuards.UNKNOWN);
        refusedDue(c, "setKind(0, 3)", x -> x.setKind(0, 3), FlameGuards.BAD_VALUE);
        refusedDue(c, "setKind(0, 1)", x -> x.setKind(0, 1), FlameGuards.NOT_POSSIBLE);
        Refused.due(c, "setKind(0, 0)", FlameGuards::new, x -> x.setKind(0, 0), FlameGuards.NONE);
        refusedDue(c, "plan(-1, 0)", x -> x.plan(-1, 0), FlameGuards.BAD_VALUE);
        refusedDue(c, "plan(3, 9)", x -> x.plan(3, 9), FlameGuards.NONE);
        Refused.due(c, "plan of a full plan", HistorySentences::fullOfAll, x -> x.plan(5, 5), FlameGuards.FULL);
        Refused.due(c, "readPlan of thirteen", HistorySentences::fullOfAll, FlameGuards::readPlan, FlameGuards.FULL);
        Refused.due(c, "type behind 60", HistorySentences::fullOfAll, x -> x.type('1'), FlameGuards.FULL);
        Refused.due(c, "readPlan with a fault", HistorySentences::richWithFault, FlameGuards::readPlan, -107);
    }

    private static void refusedDue(Check c, String call, ToIntFunction<FlameGuards> refused, int answer) {
        Refused.due(c, call, Given::rich, refused, answer);
    }

    private static FlameGuards richWithFault() {
        FlameGuards x = Given.rich();
        x.type('x');
        return x;
    }

    /** A full plan, a full text with too many entries, a full history, and a snapshot. */
    private static FlameGuards fullOfAll() {
        FlameGuards x = Given.withFullPlan();
        x.pass(3);
        x.keep();
        x.pass(1);
        Given.typeAll(x, "0:0,1:0,2:0,3:0,4:0,5:0,6:0,7:0,8:0,9:0,10:0,11:0,1234:0,1:1");
        return x;
    }

    private static void refusedBurners(Check c) {
        refusedDue(c, "turn(4, 1)", x -> x.turn(4, 1), FlameGuards.UNKNOWN);
        refusedDue(c, "turn(0, 3)", x -> x.turn(0, 3), FlameGuards.BAD_VALUE);
        refusedDue(c, "turn(0, 2)", x -> x.turn(0, 2), FlameGuards.NONE);
        refusedDue(c, "press(4, true)", x -> x.press(4, true), FlameGuards.UNKNOWN);
        refusedDue(c, "press(0, true)", x -> x.press(0, true), FlameGuards.NONE);
        refusedDue(c, "igniter(4, true)", x -> x.igniter(4, true), FlameGuards.UNKNOWN);
        refusedDue(c, "igniter(3, true)", x -> x.igniter(3, true), FlameGuards.NONE);
        refusedDue(c, "light(4)", x -> x.light(4), FlameGuards.UNKNOWN);
        refusedDue(c, "light(0)", x -> x.light(0), FlameGuards.NOT_POSSIBLE);
        refusedDue(c, "light(1)", x -> x.light(1), FlameGuards.NOT_POSSIBLE);
        refusedDue(c, "unlock(4)", x -> x.unlock(4), FlameGuards.UNKNOWN);
        refusedDue(c, "unlock(0)", x -> x.unlock(0), FlameGuards.NOT_POSSIBLE);
        refusedDue(c, "unlock(3)", x -> x.unlock(3), FlameGuards.NOT_POSSIBLE);
        refusedDue(c, "pass(0)", x -> x.pass(0), FlameGuards.BAD_VALUE);
        refusedDue(c, "pass(201)", x -> x.pass(201), FlameGuards.BAD_VALUE);
    }

    private static void refusedTellings(Check c) {
        refusedDue(c, "burner(4, 0)", x -> x.burner(4, 0), FlameGuards.UNKNOWN);
        refusedDue(c, "burner(0, 12)", x -> x.burner(0, 12), FlameGuards.BAD_VALUE);
        refusedDue(c, "staysOpen(4)", x -> x.staysOpen(4), FlameGuards.UNKNOWN);
        refusedDue(c, "staysOpen(3)", x -> x.staysOpen(3), FlameGuards.NOT_POSSIBLE);
        refusedDue(c, "toPress(4, 1)", x -> x.toPress(4, 1), FlameGuards.UNKNOWN);
        refusedDue(c, "toPress(0, 0)", x -> x.toPress(0, 0), FlameGuards.BAD_VALUE);
        refusedDue(c, "clearIn()", FlameGuards::clearIn, FlameGuards.NONE);
        refusedDue(c, "blownIn(4)", x -> x.blownIn(4), FlameGuards.UNKNOWN);
        refusedDue(c, "blownIn(0)", x -> x.blownIn(0), FlameGuards.NONE);
        Refused.due(c, "blownIn(0)", FlameGuards::new, x -> x.blownIn(0), FlameGuards.NOT_POSSIBLE);
        refusedDue(c, "entry(-1, 0)", x -> x.entry(-1, 0), FlameGuards.BAD_VALUE);
        refusedDue(c, "entry(2, 0)", x -> x.entry(2, 0), FlameGuards.NONE);
        refusedDue(c, "event(-1, 0)", x -> x.event(-1, 0), FlameGuards.BAD_VALUE);
        refusedDue(c, "event(10, 0)", x -> x.event(10, 0), FlameGuards.NONE);
        refusedDue(c, "count(15)", x -> x.count(15), FlameGuards.BAD_VALUE);
        refusedDue(c, "setting(4)", x -> x.setting(4), FlameGuards.UNKNOWN);
    }

    private static void undoOfNothing(Check c) {
        Refused.due(c, "undo", FlameGuards::new, FlameGuards::undo, FlameGuards.NONE);
        FlameGuards x = new FlameGuards();
        x.turn(0, Given.LOW);
        x.turn(0, Given.HIGH);
        c.due("one is left", x.undo(), 1);
        c.due("none is left", x.undo(), 0);
        c.due("the history is empty", x.undo(), FlameGuards.NONE);
        c.due("states", x.count(13), 0);
        c.due("the tap", x.burner(0, 1), Given.OFF);
    }

    private static void snapshotInPlace(Check c) {
        FlameGuards x = new FlameGuards();
        c.due("keep", x.keep(), 0);
        x.pass(9);
        x.turn(1, Given.HIGH);
        c.due("keep in its place", x.keep(), 9);
        x.pass(1);
        x.turn(1, Given.OFF);
        c.due("restore", x.restore(), 9);
        c.due("tap", x.burner(1, 1), Given.HIGH);
    }

    private static void snapshotStays(Check c) {
        FlameGuards x = new FlameGuards();
        x.pass(2);
        x.keep();
        for (int i = 0; i < 6; i++) {
            x.pass(5);
            c.due("restore", x.restore(), 2);
            c.due("tick", x.count(0), 2);
        }
        x.pass(5);
        x.restore();
        c.due("undo of the restore", x.undo(), 3);
        c.due("tick", x.count(0), 7);
        c.due("restore again", x.restore(), 2);
        c.due("restore of the same state", x.restore(), 2);
        x.undo();
        c.due("it was an act", x.undo(), 2);
        c.due("tick", x.count(0), 7);
    }

    private static void restoreOfNothing(Check c) {
        Refused.due(c, "restore", FlameGuards::new, FlameGuards::restore, FlameGuards.NONE);
        FlameGuards x = new FlameGuards();
        x.pass(4);
        c.due("restore", x.restore(), FlameGuards.NONE);
        c.due("tick", x.count(0), 4);
        c.due("states", x.count(13), 1);
        x.undo();
        x.keep();
        c.due("a snapshot of the first tick", x.restore(), 0);
        c.due("it is so already, and an act still", x.count(13), 1);
    }
}
