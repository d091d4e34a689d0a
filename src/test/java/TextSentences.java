import java.util.List;

/** The sentences on texts: of the terms, and of promises 5, 12 and 13. */
final class TextSentences {
    private static final String TERMS = "Terms";
    private static final int NO_FAULT = -1;

    private TextSentences() {
    }

    static void addTo(List<Sentence> all) {
        addGrammar(all);
        addFaults(all);
        addReading(all);
        addTyping(all);
    }

    private static void addGrammar(List<Sentence> all) {
        all.add(new Sentence(TERMS, "A text of a plan is one or more entries with \",\" between two",
                TextSentences::entriesAndCommas)
                .broken("place == ENTRY_WHOLE ? NO_FAULT", "place == ENTRY_WHOLE || place == ENTRY_START ? NO_FAULT")
                .broken("place == ENTRY_WHOLE ? NO_FAULT", "place == ENTRY_WHOLE || length == 0 ? NO_FAULT")
                .broken("character == ',' ? ENTRY_START", "character == ';' ? ENTRY_START")
                .broken("return character == ',' ? ENTRY_START : NOT_ALLOWED", "return ENTRY_START")
                .broken("return character == ',' ? ENTRY_START : NOT_ALLOWED", "return NOT_ALLOWED"));
        all.add(new Sentence(TERMS, "an entry is a tick (one to four digits", TextSentences::oneToFourDigits)
                .broken("return place + 1;", "return Math.min(place + 1, 3);")
                .broken("return place + 1;", "return place == 3 ? NOT_ALLOWED : place + 1;")
                .broken("isDigit(character) ? 1 : NOT_ALLOWED",
                        "isDigit(character) ? 1 : character == ':' ? COLON_READ : NOT_ALLOWED")
                .brokenIn("private static int placeAfter(", "return character == ':' ? COLON_READ",
                        "return place > 1 && character == ':' ? COLON_READ"));
        all.add(new Sentence(TERMS, "without a zero in front unless it is the single digit 0", TextSentences::zeroInFront)
                .brokenIn("case ENTRY_START:", "return TICK_WHOLE;", "return 1;")
                .brokenIn("case ENTRY_START:", "return TICK_WHOLE;", "return NOT_ALLOWED;"));
        all.add(new Sentence(TERMS, "and a draft (a digit from 0 to 9)", TextSentences::oneDigitOfDraft)
                .broken("character >= '0'", "character >= '1'")
                .broken("character >= '0'", "character >= '/'")
                .broken("character <= '9'", "character <= '8'")
                .broken("character <= '9'", "character <= ':'")
                .brokenIn("case ENTRY_WHOLE:", "return character == ','",
                        "if (isDigit(character)) {\n                        return ENTRY_WHOLE;\n"
                        + "                    }\n                    return character == ','"));
    }

    private static void addFaults(List<Sentence> all) {
        all.add(new Sentence(TERMS, "The fault of the text is the index, from 0, of the first character that is not allowed"
                + " at its place", TextSentences::firstFault)
                .brokenIn("int fault() {", "return i;", "return i + 1;")
                .brokenIn("int fault() {", "return i;", "return length - 1;")
                .brokenIn("int fault() {", "i < MOST_CHARACTERS", "i < MOST_CHARACTERS - 1"));
        all.add(new Sentence(TERMS, "or the length of the text if it ends too early (the empty text does).",
                TextSentences::tooEarly)
                .brokenIn("int fault() {", ": length;", ": length - 1;")
                .brokenIn("int fault() {", ": length;", ": length == 0 ? NO_FAULT : length;")
                .broken("place == ENTRY_WHOLE ? NO_FAULT", "place >= COLON_READ ? NO_FAULT"));
    }

    private static void addReading(List<Sentence> all) {
        String promise = "Promise 5";
        all.add(new Sentence(promise, "Makes the entries of the text, which stays, the plan", TextSentences::textStays)
                .broken("state.drafts.copyFrom(planRead);", "state.drafts.copyFrom(planRead); text.empty();")
                .brokenIn("boolean readInto(Plan plan) {", "plan.clear();", "")
                .brokenIn("private int placeOf(", "i < size && i < MOST_ENTRIES", "i < MOST_ENTRIES"));
        all.add(new Sentence(promise, "of several with one tick the last one counts", TextSentences::lastOneCounts)
                .broken("} else if (!plan.put(tick, character - '0')) {",
                        "} else if (plan.placeOf(tick) == plan.size && !plan.put(tick, character - '0')) {"));
        all.add(new Sentence(promise, "-100 minus the fault of the text if it has one (which is an error)",
                TextSentences::faultIsAnError)
                .broken("FAULT_BASE = -100", "FAULT_BASE = -101")
                .broken("return FAULT_BASE - fault;", "return FAULT_BASE + fault;")
                .broken("return FAULT_BASE - fault;", "history.record(state); return FAULT_BASE - fault;")
                .broken("return FAULT_BASE - fault;", "text.empty(); return FAULT_BASE - fault;"));
        all.add(new Sentence(promise, "FULL if there would be more than 12 (ticks that are alike count once).",
                TextSentences::moreThanTwelve)
                .broken("MOST_ENTRIES = 12", "MOST_ENTRIES = 11")
                .broken("MOST_ENTRIES = 12", "MOST_ENTRIES = 13")
                .broken("return size < MOST_ENTRIES || placeOf(tick) < size;", "return size < MOST_ENTRIES;")
                .broken("if (!text.readInto(planRead)) {", "if (!text.readInto(state.drafts)) {"));
    }

    private static void addTyping(List<Sentence> all) {
        all.add(new Sentence(TERMS, "There is a text of at most 60 characters, empty at first.", TextSentences::sixty)
                .broken("MOST_CHARACTERS = 60", "MOST_CHARACTERS = 59")
                .broken("MOST_CHARACTERS = 60", "MOST_CHARACTERS = 61")
                .brokenIn("        Text() {", "length = 0;", "length = 1;"));
        all.add(new Sentence("Promise 12", "`character`: any character", TextSentences::anyCharacter)
                .broken("length < 0 || length >= MOST_CHARACTERS", "character == 0 || length >= MOST_CHARACTERS")
                .broken("length < 0 || length >= MOST_CHARACTERS", "character > 255 || length >= MOST_CHARACTERS")
                .broken("characters[length] = character;", "characters[length] = (char) (character & 255);"));
        all.add(new Sentence("Promise 12", "Returns the length of the text then; FULL if it has 60 characters.",
                TextSentences::fullText)
                .broken("MOST_CHARACTERS = 60", "MOST_CHARACTERS = 59")
                .broken("MOST_CHARACTERS = 60", "MOST_CHARACTERS = 61")
                .brokenIn("public int type(", "return FULL;", "text.empty(); return FULL;"));
        all.add(new Sentence("Promise 13", "Returns the length that it had.", TextSentences::lengthThatItHad)
                .brokenIn("public int clearText(", "return previous;", "return text.length;")
                .brokenIn("public int clearText(", "text.empty();", "")
                .brokenIn("public int clearText(", "return previous;", "return previous == 0 ? NONE : previous;"));
    }

    private static FlameGuards typed(String text) {
        FlameGuards x = new FlameGuards();
        Given.typeAll(x, text);
        return x;
    }

    private static void faultDue(Check c, String text, int fault) {
        c.due("readPlan of " + text, typed(text).readPlan(), -100 - fault);
    }

    private static void planDue(Check c, String text, int size) {
        c.due("readPlan of " + text, typed(text).readPlan(), size);
    }

    private static void entriesAndCommas(Check c) {
        planDue(c, "1:1", 1);
        planDue(c, "1:1,2:2", 2);
        planDue(c, "3:3,2:2,1:1", 3);
        faultDue(c, "", 0);
        faultDue(c, ",", 0);
        faultDue(c, ",1:1", 0);
        faultDue(c, "1:1,", 4);
        faultDue(c, "1:1,,2:2", 4);
        faultDue(c, "1:1;2:2", 3);
        faultDue(c, "1:1 2:2", 3);
        faultDue(c, "1:1:2:2", 3);
        faultDue(c, "1,1", 1);
        faultDue(c, "1:,1", 2);
    }

    private static void oneToFourDigits(Check c) {
        faultDue(c, ":1", 0);
        faultDue(c, "2:2,:1", 4);
        for (String tick : new String[] {"1", "9", "10", "99", "100", "999", "1000", "9999"}) {
            FlameGuards x = typed(tick + ":5");
            c.due("readPlan of " + tick, x.readPlan(), 1);
            c.due("tick", x.entry(0, 0), Integer.parseInt(tick));
            c.due("draft", x.entry(0, 1), 5);
        }
        faultDue(c, "10000:5", 4);
        faultDue(c, "99999:5", 4);
        faultDue(c, "1:1,12345:5", 8);
    }

    private static void zeroInFront(Check c) {
        FlameGuards x = typed("0:7");
        c.due("readPlan of 0:7", x.readPlan(), 1);
        c.due("tick", x.entry(0, 0), 0);
        planDue(c, "5:5,0:7", 2);
        faultDue(c, "00:7", 1);
        faultDue(c, "01:7", 1);
        faultDue(c, "0000:7", 1);
        faultDue(c, "5:5,07:7", 5);
        planDue(c, "10:7", 1);
        planDue(c, "1000:7", 1);
    }

    private static void oneDigitOfDraft(Check c) {
        for (char digit = '0'; digit <= '9'; digit++) {
            FlameGuards x = typed("4:" + digit);
            c.due("readPlan with " + digit, x.readPlan(), 1);
            c.due("draft", x.entry(0, 1), digit - '0');
            c.due("a tick with " + digit, typed("1" + digit + ":0").readPlan(), 1);
        }
        faultDue(c, "4:/", 2);
        faultDue(c, "4::", 2);
        faultDue(c, "4:-", 2);
        faultDue(c, "4:a", 2);
        faultDue(c, "4:" + (char) 0, 2);
        faultDue(c, "4:" + (char) ('5' + 256), 2);
        faultDue(c, "4:" + (char) 0x0665, 2);
        faultDue(c, "4:10", 3);
        faultDue(c, "4:00", 3);
        faultDue(c, "/:4", 0);
        faultDue(c, "1/:4", 1);
        faultDue(c, (char) 0xff15 + ":4", 0);
    }

    private static void firstFault(Check c) {
        faultDue(c, "x", 0);
        faultDue(c, "x1:1", 0);
        faultDue(c, "1x:1", 1);
        faultDue(c, "1:x", 2);
        faultDue(c, "1:1x", 3);
        faultDue(c, "1:1,x", 4);
        faultDue(c, "1:1,2x2;", 5);
        faultDue(c, "x:x,x:x", 0);
        faultDue(c, "1000:0,".repeat(8) + "10:x", 59);
        faultDue(c, "1000:0,".repeat(8) + "100x", 59);
        planDue(c, "1000:0,".repeat(8) + "10:1", 2);
    }

    private static void tooEarly(Check c) {
        String whole = "1234:5,0:6,78:9";
        int[] faults = {0, 1, 2, 3, 4, 5, NO_FAULT, 7, 8, 9, NO_FAULT, 11, 12, 13, 14, NO_FAULT};
        int[] sizes = {0, 0, 0, 0, 0, 0, 1, 0, 0, 0, 2, 0, 0, 0, 0, 3};
        for (int length = 0; length <= whole.length(); length++) {
            String text = whole.substring(0, length);
            if (faults[length] == NO_FAULT) {
                planDue(c, text, sizes[length]);
            } else {
                faultDue(c, text, faults[length]);
            }
        }
        faultDue(c, "1000:0,".repeat(8) + "100:", 60);
        FlameGuards x = typed("1:1");
        x.clearText();
        c.due("an emptied text", x.readPlan(), -100);
    }

    private static void textStays(Check c) {
        FlameGuards x = typed("3:4,9:1");
        x.plan(50, 5);
        c.due("readPlan", x.readPlan(), 2);
        c.due("length", x.count(14), 7);
        c.due("the old entry is gone", x.entry(2, 0), FlameGuards.NONE);
        x.plan(60, 6);
        c.due("readPlan again", x.readPlan(), 2);
        c.due("and again, as it is so already", x.readPlan(), 2);
        Given.typeAll(x, ",1:1");
        c.due("with more text", x.readPlan(), 3);
        c.due("with another text", Given.readPlan(x, "5:5"), 1);
        c.due("its tick", x.entry(0, 0), 5);
        c.due("nothing of the older texts", x.entry(1, 0), FlameGuards.NONE);
        c.due("a tick of an older text is a new entry", x.plan(9, 4), 2);
        c.due("its tick", x.entry(1, 0), 9);
    }

    private static void lastOneCounts(Check c) {
        FlameGuards x = typed("5:1,7:7,5:2,5:3,7:0");
        c.due("readPlan", x.readPlan(), 2);
        c.due("tick", x.entry(0, 0), 5);
        c.due("draft", x.entry(0, 1), 3);
        c.due("tick", x.entry(1, 0), 7);
        c.due("draft", x.entry(1, 1), 0);
    }

    private static void faultIsAnError(Check c) {
        String[] texts = {"", "x", "1", "1:", "1:1,", "1:1,x", "1:1,2:2,03:3"};
        int[] faults = {0, 0, 1, 2, 4, 4, 9};
        for (int i = 0; i < texts.length; i++) {
            String text = texts[i];
            Refused.due(c, "readPlan of " + text, () -> {
                FlameGuards x = Given.rich();
                x.clearText();
                Given.typeAll(x, text);
                return x;
            }, FlameGuards::readPlan, -100 - faults[i]);
        }
    }

    /** So many entries with ticks from 0 on. */
    private static String entries(int number) {
        StringBuilder text = new StringBuilder();
        for (int tick = 0; tick < number; tick++) {
            text.append(tick > 0 ? "," : "").append(tick).append(":1");
        }
        return text.toString();
    }

    private static void moreThanTwelve(Check c) {
        planDue(c, entries(11), 11);
        planDue(c, entries(12), 12);
        FlameGuards x = typed(entries(12) + ",0:8,9:9");
        c.due("fourteen entries of twelve ticks", x.readPlan(), 12);
        c.due("the first draft", x.entry(0, 1), 8);
        c.due("the tenth draft", x.entry(9, 1), 9);
        c.due("the last tick", x.entry(11, 0), 11);
        planDue(c, "0:0," + entries(12), 12);
        Refused.due(c, "readPlan of thirteen", () -> {
            FlameGuards y = Given.rich();
            y.clearText();
            Given.typeAll(y, entries(13));
            return y;
        }, FlameGuards::readPlan, FlameGuards.FULL);
        FlameGuards z = Given.withFullPlan();
        Given.typeAll(z, entries(12));
        c.due("twelve others in place of twelve", z.readPlan(), 12);
        c.due("the last tick", z.entry(11, 0), 11);
    }

    private static void sixty(Check c) {
        FlameGuards x = new FlameGuards();
        c.due("length at first", x.count(14), 0);
        for (int length = 1; length <= 60; length++) {
            c.due("type", x.type('1'), length);
        }
        c.due("one more", x.type('1'), FlameGuards.FULL);
        c.due("length", x.count(14), 60);
    }

    private static void anyCharacter(Check c) {
        for (int first = 0; first <= 0xffff; first += 50) {
            FlameGuards x = new FlameGuards();
            for (int i = 0; i < 50 && first + i <= 0xffff; i++) {
                c.due("type of " + (first + i), x.type((char) (first + i)), i + 1);
            }
        }
        faultDue(c, "1" + (char) (':' + 256) + "1", 1);
    }

    private static void fullText(Check c) {
        Refused.due(c, "type behind 60", () -> typed("1000:0,".repeat(8) + "10:1"), x -> x.type('1'), FlameGuards.FULL);
        Refused.due(c, "type behind 60", () -> typed("1000:0,".repeat(8) + "10:1"), x -> x.type('\0'), FlameGuards.FULL);
        FlameGuards x = typed("1000:0,".repeat(8) + "10:");
        c.due("length", x.count(14), 59);
        c.due("the sixtieth", x.type('1'), 60);
        c.due("the sixty-first", x.type('1'), FlameGuards.FULL);
        x.clearText();
        c.due("behind clearText", x.type('1'), 1);
    }

    private static void lengthThatItHad(Check c) {
        FlameGuards x = new FlameGuards();
        c.due("clearText of an empty text", x.clearText(), 0);
        x.type('7');
        c.due("clearText of one", x.clearText(), 1);
        c.due("length", x.count(14), 0);
        Given.typeAll(x, "1".repeat(61));
        c.due("clearText of a full text", x.clearText(), 60);
        c.due("clearText again", x.clearText(), 0);
        c.due("it is no act", x.count(13), 0);
    }
}
