import java.util.List;

/** The sentences of the terms on a tick and on events. */
final class TickSentences {
    private static final String TERMS = "Terms";

    private TickSentences() {
    }

    static void addTo(List<Sentence> all) {
        addFlames(all);
        addTries(all);
        addDrops(all);
        addGas(all);
        all.add(new Sentence(TERMS, "The latest 10 events are known", TickSentences::tenEvents)
                .broken("MOST_KNOWN = 10", "MOST_KNOWN = 9")
                .broken("MOST_KNOWN = 10", "MOST_KNOWN = 11")
                .broken("known = Math.min(known + 1, MOST_KNOWN);", "known++;"));
    }

    private static void addFlames(List<Sentence> all) {
        all.add(new Sentence(TERMS, "In a tick, the burners are gone through from 0 on", TickSentences::fromZeroOn)
                .brokenIn("void passTick() {", "for (int i = 0; i < burners.length; i++) {",
                        "for (int i = burners.length - 1; i >= 0; i--) {")
                .brokenIn("void passTick() {", "int i = 0;", "int i = 1;")
                .brokenIn("void passTick() {", "i < burners.length;", "i < burners.length - 1;"));
        all.add(new Sentence(TERMS, "if the valve is not open, the flame goes out (no event)",
                TickSentences::outWithoutEvent)
                .brokenIn("private void blow(", "burner.flame = false;",
                        "burner.flame = false; log.note(Log.DROPPED, index, tick);")
                .brokenIn("private void blow(", "if (!isOpen(burner)) {", "if (false) {")
                .brokenIn("private void blow(", "} else if (draft > burner.strength()) {",
                        "}\n            if (draft > burner.strength()) {"));
        all.add(new Sentence(TERMS, "if the draft is greater than the strength, it is blown out.", TickSentences::blownOut)
                .brokenIn("private void blow(", "draft > burner.strength()", "draft >= burner.strength()")
                .brokenIn("private void blow(", "draft > burner.strength()", "draft > burner.strength() + 1")
                .brokenIn("private void blow(", "log.note(Log.BLOWN_OUT, index, tick);", ""));
    }

    private static void addTries(List<Sentence> all) {
        all.add(new Sentence(TERMS, "If it has no flame then (also if it was blown out just now)",
                TickSentences::triesInTheTickOfTheDraft)
                .broken("                blow(i, burner, draft);\n                if (sparks) {",
                        "                if (burner.flame) {\n                    blow(i, burner, draft);\n"
                        + "                } else if (sparks) {")
                .brokenIn("private void spark(", "burner.flame || ", ""));
        all.add(new Sentence(TERMS, "the valve is open, the igniter is on", TickSentences::triesOnlyIfOpenAndOn)
                .brokenIn("private void spark(", " || !isOpen(burner)", "")
                .brokenIn("private void spark(", " || !burner.igniter", ""));
        all.add(new Sentence(TERMS, "and the gas in the room (as it was at the beginning of the tick) is less than the"
                + " limit: its tries grow by 1", TickSentences::triesOnlyBelowTheLimit)
                .broken("gas < settings.valueOf(Settings.LIMIT)", "gas <= settings.valueOf(Settings.LIMIT)")
                .broken("gas < settings.valueOf(Settings.LIMIT)", "gas < settings.valueOf(Settings.LIMIT) - 1")
                .broken("if (sparks) {", "if (allowsFire()) {")
                .broken("if (sparks) {", "if (true) {")
                .broken("burner.tries++;", "burner.tries += 2;")
                .broken("burner.tries++;", ""));
        all.add(new Sentence(TERMS, "if the draft is not greater than the strength, it is lit, and its tries are 0",
                TickSentences::litByItsIgniter)
                .broken("draft <= burner.strength()", "draft < burner.strength()")
                .broken("draft <= burner.strength()", "draft <= burner.strength() + 1")
                .brokenIn("void kindle(", "burner.tries = 0;", ""));
        all.add(new Sentence(TERMS, "otherwise, if its tries are as many as the most tries, or more, it is locked.",
                TickSentences::lockedByItsTries)
                .broken("burner.tries >= settings", "burner.tries > settings")
                .broken("burner.tries >= settings", "burner.tries == settings")
                .broken("burner.tries >= settings", "burner.tries + 1 >= settings")
                .broken("log.note(Log.LOCKED, index, tick);", ""));
    }

    private static void addDrops(List<Sentence> all) {
        all.add(new Sentence(TERMS, "If the valve was open ahead of that (behind 2), and is not now, it drops",
                TickSentences::drops)
                .broken("boolean wasOpen = isOpen(burner);", "boolean wasOpen = true;")
                .broken("boolean wasOpen = isOpen(burner);", "boolean wasOpen = burner.tap != Burner.OFF"
                        + " && burner.temperature >= settings.valueOf(Settings.THRESHOLD);")
                .broken("wasOpen && !isOpen(burner)", "wasOpen && burner.temperature <= settings.valueOf(0)")
                .broken("wasOpen && !isOpen(burner)", "wasOpen && burner.temperature < settings.valueOf(0)")
                .broken("wasOpen && !isOpen(burner)", "wasOpen && burner.temperature < settings.valueOf(0) - 1"));
        all.add(new Sentence(TERMS, "a flame that there is goes out (no further event)", TickSentences::dropsWithOneEvent)
                .broken("log.note(Log.DROPPED, index, tick);",
                        "log.note(Log.DROPPED, index, tick);\n                log.note(Log.BLOWN_OUT, index, tick);"));
    }

    private static void addGas(List<Sentence> all) {
        all.add(new Sentence(TERMS, "If the valve is open and there is no flame, gas flows unburnt: the gas in the room"
                + " grows by the flow, and the dark ticks of the burner by 1", TickSentences::flowsUnburnt)
                .broken("return isOpen(burner) && !burner.flame;", "return isOpen(burner);")
                .broken("return isOpen(burner) && !burner.flame;", "return burner.pressed && !burner.flame;")
                .broken("gas += burner.flow();", "gas += burner.flow() + 1;")
                .broken("gas += burner.flow();", "gas = burner.flow();")
                .broken("burner.dark++;", "burner.dark = 1;"));
        all.add(new Sentence(TERMS, "otherwise its dark ticks are 0.", TickSentences::darkTicksEnd)
                .broken("burner.dark = 0;", "")
                .broken("burner.dark = 0;", "burner.dark = isOpen(burner) ? 0 : burner.dark;")
                .broken("burner.dark = 0;", "burner.dark = burner.flame ? 0 : burner.dark;")
                .broken("burner.dark = 0;", "burner.dark = burner.locked ? burner.dark : 0;"));
        all.add(new Sentence(TERMS, "(Acts between ticks leave them.)", TickSentences::actsLeaveDarkTicks)
                .brokenIn("void kindle(", "burner.tries = 0;", "burner.tries = 0; burner.dark = 0;")
                .broken("found.tap = tap;", "found.tap = tap; found.dark = 0;")
                .broken("found.flame = false;", "found.flame = false; found.dark = 0;")
                .broken("found.pressed = is;", "found.pressed = is; found.dark = 0;")
                .broken("found.igniter = is;", "found.igniter = is; found.dark = 0;")
                .broken("found.kind = kind;", "found.kind = kind; found.dark = 0;"));
        all.add(new Sentence(TERMS, "the gas in the room (0 at first) becomes less by the airing and the draft together,"
                + " but not less than 0", TickSentences::gasLeaves)
                .broken("Math.max(0, gas - ", "Math.max(-1, gas - ")
                .broken("Math.max(0, gas - ", "Math.max(1, gas - ")
                .broken("Settings.AIRING) - draft)", "Settings.AIRING))")
                .broken("gas - settings.valueOf(Settings.AIRING) - draft", "gas - draft")
                .broken("        int gas;", "        int gas = 1;"));
        all.add(new Sentence(TERMS, "the tick (0 at first) becomes greater by 1.", TickSentences::nextTick)
                .broken("        int tick;", "        int tick = 1;")
                .broken("tick++;", "tick += 2;"));
    }

    private static void fromZeroOn(Check c) {
        FlameGuards x = new FlameGuards();
        for (int burner = 3; burner >= 0; burner--) {
            Given.open(x, burner, Given.LOW);
            x.igniter(burner, true);
        }
        c.due("four are lit", x.pass(1), 4);
        for (int back = 0; back < 4; back++) {
            c.due("the event's burner", x.event(back, 1), 3 - back);
        }
        x.plan(0, 9);
        c.due("four are blown out", x.pass(1), 4);
        for (int back = 0; back < 4; back++) {
            c.due("the event's burner", x.event(back, 1), 3 - back);
        }
    }

    private static void outWithoutEvent(Check c) {
        for (int draft : new int[] {0, 9}) {
            FlameGuards x = Given.burning(Given.SMALL, Given.LOW);
            x.pass(1);
            x.plan(1, draft);
            x.press(0, false);
            c.due("let go in a draft of " + draft, x.pass(1), 0);
            c.due("its flame", x.burner(0, 4), 0);
            c.due("blown out so far", x.count(5), 0);
        }
        FlameGuards y = Given.burning(Given.SMALL, Given.LOW);
        y.pass(7);
        y.press(0, false);
        y.set(0, 305);
        c.due("at the threshold", y.pass(1), 0);
        c.due("its flame", y.burner(0, 4), 1);
        y.set(0, 331);
        c.due("1 below the threshold", y.pass(1), 0);
        c.due("its flame", y.burner(0, 4), 0);
        c.due("no gas", y.burner(0, 10), 0);
    }

    private static void blownOut(Check c) {
        for (int i = 0; i < 6; i++) {
            for (int more = -1; more <= 1; more++) {
                FlameGuards x = Given.burning(i / 2, i % 2 + 1);
                x.plan(0, Given.STRENGTHS[i] + more);
                c.due("events in a draft", x.pass(1), more > 0 ? 1 : 0);
                c.due("flame in a draft", x.burner(0, 4), more > 0 ? 0 : 1);
                c.due("event", x.event(0, 0), more > 0 ? 1 : 0);
            }
        }
    }

    private static void triesInTheTickOfTheDraft(Check c) {
        FlameGuards x = Given.burning(Given.SMALL, Given.LOW);
        x.igniter(0, true);
        c.due("a flame needs no try", x.pass(1), 0);
        c.due("no try", x.burner(0, 8), 0);
        c.due("lit so far", x.count(4), 1);
        x.plan(0, 3);
        c.due("blown out", x.pass(1), 1);
        c.due("a try in the tick of the draft", x.burner(0, 8), 1);
        x.pass(1);
        c.due("and in the next", x.burner(0, 8), 2);

        FlameGuards y = Given.burning(Given.SMALL, Given.LOW);
        y.set(1, 1);
        y.igniter(0, true);
        y.plan(0, 3);
        c.due("blown out and locked in one tick", y.pass(1), 2);
        c.due("the latest", y.event(0, 0), 3);
        c.due("the one before", y.event(1, 0), 1);
    }

    private static void triesOnlyIfOpenAndOn(Check c) {
        FlameGuards x = new FlameGuards();
        x.turn(0, Given.LOW);
        x.igniter(0, true);
        c.due("a closed valve", x.pass(1), 0);
        x.turn(0, Given.OFF);
        x.press(0, true);
        c.due("the tap off", x.pass(1), 0);
        x.turn(0, Given.LOW);
        x.igniter(0, false);
        c.due("the igniter off", x.pass(1), 0);
        c.due("no try", x.burner(0, 8), 0);
        x.igniter(0, true);
        c.due("open and on", x.pass(1), 1);
        c.due("its flame", x.burner(0, 4), 1);

        FlameGuards y = Given.withLock();
        c.due("locked", y.pass(5), 0);
        c.due("no try more", y.burner(3, 8), 1);
    }

    private static void triesOnlyBelowTheLimit(Check c) {
        for (int more = -1; more <= 1; more++) {
            FlameGuards x = Given.withGas(60 + more);
            x.set(3, 60);
            x.plan(0, 3);
            x.igniter(1, true);
            Given.open(x, 1, Given.LOW);
            c.due("the gas", x.count(1), 60 + more);
            x.pass(1);
            c.due("tries at 60 and " + more, x.burner(1, 8), more < 0 ? 1 : 0);
        }
        FlameGuards x = Given.withGas(50);
        x.set(3, 51);
        x.igniter(1, true);
        Given.open(x, 1, Given.LOW);
        Given.open(x, 0, Given.HIGH);
        c.due("gas of the tick itself does not count", x.pass(1), 1);
        c.due("its flame", x.burner(1, 4), 1);
        c.due("the gas behind the tick", x.count(1), 54);

        FlameGuards y = Given.withGas(50);
        y.set(3, 50);
        y.set(2, 1);
        y.igniter(1, true);
        Given.open(y, 1, Given.LOW);
        y.plan(0, 2);
        c.due("gas that leaves in the tick itself counts", y.pass(1), 0);
        c.due("the gas behind the tick", y.count(1), 49);
        c.due("the next tick", y.pass(1), 1);
    }

    private static void litByItsIgniter(Check c) {
        for (int i = 0; i < 6; i++) {
            for (int more = -1; more <= 1; more++) {
                FlameGuards x = new FlameGuards();
                x.setKind(0, i / 2);
                x.igniter(0, true);
                Given.open(x, 0, i % 2 + 1);
                x.plan(0, 9);
                x.pass(2);
                c.due("tries", x.burner(0, 8), 2);
                x.plan(0, Given.STRENGTHS[i] + more);
                c.due("events", x.pass(1), more > 0 ? 0 : 1);
                c.due("flame", x.burner(0, 4), more > 0 ? 0 : 1);
                c.due("tries then", x.burner(0, 8), more > 0 ? 3 : 0);
                c.due("event", x.event(0, 0), more > 0 ? FlameGuards.NONE : 0);
            }
        }
    }

    private static void lockedByItsTries(Check c) {
        for (int most = 1; most <= 20; most++) {
            FlameGuards x = new FlameGuards();
            x.set(1, most);
            x.igniter(0, true);
            Given.open(x, 0, Given.LOW);
            x.plan(0, 3);
            if (most > 1) {
                c.due("one try fewer than the most", x.pass(most - 1), 0);
                c.due("not locked", x.burner(0, 7), 0);
            }
            c.due("as many as the most", x.pass(1), 1);
            c.due("locked", x.burner(0, 7), 1);
            c.due("event", x.event(0, 0), 3);
            c.due("tries", x.burner(0, 8), most);
        }
        FlameGuards y = new FlameGuards();
        y.igniter(0, true);
        Given.open(y, 0, Given.LOW);
        y.plan(0, 3);
        y.pass(4);
        y.set(1, 2);
        c.due("an act does not lock", y.burner(0, 7), 0);
        c.due("more than the most", y.pass(1), 1);
        c.due("locked", y.burner(0, 7), 1);
        c.due("tries", y.burner(0, 8), 5);
    }

    private static void drops(Check c) {
        // A joint at 700 is at 370 behind 6 ticks without a flame, behind 7 at 332, behind 8 at 298.
        int[] thresholds = {332, 333, 334};
        int[] drops = {0, 1, 1};
        for (int i = 0; i < 3; i++) {
            FlameGuards x = Given.burning(Given.SMALL, Given.HIGH);
            x.pass(200);
            x.plan(200, 9);
            x.press(0, false);
            x.set(0, thresholds[i]);
            c.due("blown out", x.pass(6), 1);
            c.due("joint", x.burner(0, 5), 370);
            c.due("open till then", x.burner(0, 6), 1);
            c.due("drops at " + thresholds[i], x.pass(1), drops[i]);
            c.due("joint", x.burner(0, 5), 332);
            c.due("open", x.burner(0, 6), 1 - drops[i]);
            c.due("event", x.event(0, 0), drops[i] == 1 ? 2 : 1);
            c.due("event's tick", x.event(0, 2), drops[i] == 1 ? 206 : 200);
            c.due("it drops once", x.pass(3), 1 - drops[i]);
        }
        lockedOnesDoNotDrop(c);
        pressedOnesDoNotDrop(c);
    }

    /** The joint falls below the threshold in the tick in which it is locked. */
    private static void lockedOnesDoNotDrop(Check c) {
        FlameGuards x = Given.burning(Given.SMALL, Given.HIGH);
        x.pass(200);
        x.set(1, 7);
        x.igniter(0, true);
        x.plan(200, 9);
        x.press(0, false);
        x.set(0, 333);
        c.due("blown out, then tries", x.pass(6), 1);
        c.due("tries", x.burner(0, 8), 6);
        c.due("locked", x.pass(1), 1);
        c.due("event", x.event(0, 0), 3);
        c.due("dropped so far", x.count(6), 0);
        c.due("joint", x.burner(0, 5), 332);
    }

    private static void pressedOnesDoNotDrop(Check c) {
        FlameGuards x = Given.burning(Given.SMALL, Given.HIGH);
        x.pass(200);
        x.plan(200, 9);
        c.due("blown out", x.pass(30), 1);
        c.isTrue("below the threshold", x.burner(0, 5) < 300);
        c.due("open", x.burner(0, 6), 1);
        c.due("let go", x.press(0, false), 0);
        c.due("it was not open in the tick", x.pass(1), 0);
        c.due("dropped so far", x.count(6), 0);
        FlameGuards y = Given.burning(Given.SMALL, Given.HIGH);
        y.pass(200);
        y.turn(0, Given.OFF);
        c.due("turned off ones do not drop", y.pass(200), 0);
    }

    /** No joint with a flame can drop, as each heat is above the greatest threshold; so one event in all is seen. */
    private static void dropsWithOneEvent(Check c) {
        FlameGuards x = Given.burning(Given.SMALL, Given.LOW);
        x.pass(200);
        x.plan(200, 3);
        x.press(0, false);
        x.set(0, 404);
        c.due("blown out", x.pass(1), 1);
        c.due("joint", x.burner(0, 5), 449);
        c.due("joint at the threshold", x.pass(1), 0);
        c.due("dropped, and nothing more", x.pass(1), 1);
        c.due("event", x.event(0, 0), 2);
        c.due("flame", x.burner(0, 4), 0);
        c.due("all events", x.count(4) * 1000 + x.count(5) * 100 + x.count(6) * 10 + x.count(7), 1110);
    }

    private static void flowsUnburnt(Check c) {
        int[] flows = {2, 4, 4, 9, 6, 14};
        for (int i = 0; i < 6; i++) {
            FlameGuards x = new FlameGuards();
            x.set(2, 0);
            x.setKind(0, i / 2);
            Given.open(x, 0, i % 2 + 1);
            for (int tick = 1; tick <= 3; tick++) {
                x.pass(1);
                c.due("gas", x.count(1), tick * flows[i]);
                c.due("dark ticks", x.burner(0, 9), tick);
            }
            x.light(0);
            x.pass(1);
            c.due("no gas with a flame", x.count(1), 3 * flows[i]);
            x.turn(0, Given.OFF);
            x.pass(1);
            c.due("no gas with a closed valve", x.count(1), 3 * flows[i]);
        }
        FlameGuards y = Given.burning(Given.SMALL, Given.LOW);
        y.pass(9);
        y.press(0, false);
        y.plan(9, 3);
        y.pass(1);
        c.due("gas while the joint is warm", y.burner(0, 10), 2);
        c.due("dark ticks", y.burner(0, 9), 1);
        y.pass(1);
        c.due("no gas in the tick of the drop", y.burner(0, 10), 2);
    }

    private static FlameGuards dark(int burner) {
        FlameGuards x = new FlameGuards();
        x.igniter(burner, true);
        x.plan(0, 9);
        Given.open(x, burner, Given.HIGH);
        x.pass(2);
        return x;
    }

    private static void darkTicksEnd(Check c) {
        FlameGuards x = dark(0);
        c.due("dark ticks", x.burner(0, 9), 2);
        x.plan(0, 0);
        x.pass(1);
        c.due("by a flame", x.burner(0, 9), 0);
        FlameGuards y = dark(1);
        y.press(1, false);
        y.pass(1);
        c.due("by a closed valve", y.burner(1, 9), 0);
        FlameGuards z = dark(2);
        z.set(1, 3);
        z.pass(1);
        c.due("locked", z.burner(2, 7), 1);
        c.due("by the lock, in its tick", z.burner(2, 9), 0);
        FlameGuards w = Given.burning(Given.SMALL, Given.LOW);
        w.pass(20);
        w.plan(20, 3);
        w.press(0, false);
        w.pass(w.staysOpen(0) - 1);
        c.isTrue("dark ticks", w.burner(0, 9) > 0);
        c.due("it drops", w.pass(1), 1);
        c.due("by the drop, in its tick", w.burner(0, 9), 0);
    }

    private static void actsLeaveDarkTicks(Check c) {
        FlameGuards x = new FlameGuards();
        Given.open(x, 0, Given.HIGH);
        x.pass(2);
        x.press(0, false);
        c.due("behind press", x.burner(0, 9), 2);
        x.press(0, true);
        x.turn(0, Given.LOW);
        c.due("behind turn", x.burner(0, 9), 2);
        x.igniter(0, true);
        c.due("behind igniter", x.burner(0, 9), 2);
        x.light(0);
        c.due("behind light", x.burner(0, 9), 2);
        x.turn(0, Given.OFF);
        c.due("turned off", x.burner(0, 9), 2);
        x.setKind(0, Given.WIDE);
        c.due("behind setKind", x.burner(0, 9), 2);
        x.set(0, 100);
        x.plan(3, 3);
        c.due("behind set and plan", x.burner(0, 9), 2);
        Given.readPlan(x, "4:4");
        c.due("behind readPlan", x.burner(0, 9), 2);
        c.due("the most dark ticks", x.count(12), 2);
    }

    private static void gasLeaves(Check c) {
        c.due("gas at first", new FlameGuards().count(1), 0);
        int[][] losses = {{0, 0}, {5, 0}, {0, 3}, {5, 3}, {50, 9}};
        for (int[] loss : losses) {
            for (int more = -1; more <= 1; more++) {
                int gas = 60 + loss[0] + loss[1] + more;
                FlameGuards x = Given.withGas(gas);
                x.set(2, loss[0]);
                x.plan(0, loss[1]);
                x.pass(1);
                c.due("less by airing and draft", x.count(1), 60 + more);
            }
        }
        for (int more = -1; more <= 1; more++) {
            FlameGuards x = Given.withGas(59 + more);
            x.set(2, 50);
            x.plan(0, 9);
            x.pass(1);
            c.due("not less than 0", x.count(1), Math.max(0, more));
            x.pass(1);
            c.due("0 then", x.count(1), 0);
        }
    }

    private static void nextTick(Check c) {
        FlameGuards x = new FlameGuards();
        c.due("at first", x.count(0), 0);
        for (int tick = 1; tick <= 5; tick++) {
            x.pass(1);
            c.due("the tick", x.count(0), tick);
        }
        x.pass(200);
        c.due("the tick", x.count(0), 205);
    }

    private static void tenEvents(Check c) {
        FlameGuards x = new FlameGuards();
        x.press(0, true);
        for (int number = 1; number <= 13; number++) {
            x.turn(0, Given.LOW);
            x.light(0);
            x.turn(0, Given.OFF);
            x.pass(1);
            int known = Math.min(number, 10);
            c.due("the oldest one known", x.event(known - 1, 2), number - known);
            c.due("one more", x.event(known, 2), FlameGuards.NONE);
            c.due("the latest", x.event(0, 2), number - 1);
        }
    }
}
