/** Long mixed runs of calls, each answer compared with that of a second reading of the document. */
public final class ModelRunsTest {
    private static final Check CHECK = new Check("ModelRunsTest");
    private static final int RUNS = 1500;
    private static final int CALLS = 512;
    private static final int MOST_CALLS_FOR_A_PLAN = 70;
    private static final String SIGNS = "0123456789::,,09";

    private long seed;
    private int calls = 0;
    private final FlameGuards x = new FlameGuards();
    private final PlainModel model = new PlainModel();

    private ModelRunsTest(long seed) {
        this.seed = seed * 2654435761L + 12345;
    }

    public static void main(String[] args) {
        failures();
        CHECK.end();
    }

    /** For CallLimitTest too, with another program. */
    public static int failures() {
        for (int run = 0; run < RUNS && CHECK.failures() == 0; run++) {
            ModelRunsTest one = new ModelRunsTest(run);
            while (one.calls < CALLS && CHECK.failures() == 0) {
                one.calls++;
                one.call("run " + run + ", call " + one.calls + ": ");
            }
        }
        return CHECK.failures();
    }

    private int below(int bound) {
        seed = seed * 6364136223846793005L + 1442695040888963407L;
        return (int) ((seed >>> 33) % bound);
    }

    /** Mostly within 0 to most, at times just beside, at times far away. */
    private int number(int most) {
        int sort = below(60);
        if (sort == 0) {
            return -1;
        }
        if (sort == 1) {
            return most + 1;
        }
        if (sort == 2) {
            return below(2) == 0 ? Integer.MIN_VALUE : Integer.MAX_VALUE;
        }
        return below(most + 1);
    }

    private int value(int which) {
        switch (which) {
            case 0:
                return 95 + number(360);
            case 1:
                return number(below(2) == 0 ? 4 : 21);
            case 2:
                return number(below(2) == 0 ? 6 : 51);
            default:
                return 45 + number(below(2) == 0 ? 60 : 960);
        }
    }

    private int tick() {
        int sort = below(10);
        if (sort == 0) {
            return number(9999);
        }
        return model.count(0) + below(sort < 7 ? 12 : 600) - 4;
    }

    private void call(String where) {
        int a = number(3);
        int b;
        boolean is = below(3) > 0;
        switch (below(40)) {
            case 0:
                b = value(a);
                CHECK.due(where + "set(" + a + ", " + b + ")", x.set(a, b), model.set(a, b));
                break;
            case 1:
                b = number(2);
                CHECK.due(where + "setKind(" + a + ", " + b + ")", x.setKind(a, b), model.setKind(a, b));
                break;
            case 2:
            case 3:
                int tick = tick();
                b = below(3) == 0 ? 0 : number(9);
                CHECK.due(where + "plan(" + tick + ", " + b + ")", x.plan(tick, b), model.plan(tick, b));
                break;
            case 4:
                if (below(2) == 0 && calls + MOST_CALLS_FOR_A_PLAN <= CALLS) {
                    typePlan(where);
                }
                CHECK.due(where + "readPlan()", x.readPlan(), model.readPlan());
                break;
            case 5:
            case 6:
                b = number(2);
                CHECK.due(where + "turn(" + a + ", " + b + ")", x.turn(a, b), model.turn(a, b));
                break;
            case 7:
            case 8:
                CHECK.due(where + "press(" + a + ", " + is + ")", x.press(a, is), model.press(a, is));
                break;
            case 9:
                CHECK.due(where + "igniter(" + a + ", " + is + ")", x.igniter(a, is), model.igniter(a, is));
                break;
            case 10:
            case 11:
                CHECK.due(where + "light(" + a + ")", x.light(a), model.light(a));
                break;
            case 12:
                CHECK.due(where + "unlock(" + a + ")", x.unlock(a), model.unlock(a));
                break;
            case 13:
            case 14:
            case 15:
                b = below(4) == 0 ? number(201) : number(8);
                CHECK.due(where + "pass(" + b + ")", x.pass(b), model.pass(b));
                break;
            case 16:
                char sign = below(12) == 0 ? (char) below(65536) : SIGNS.charAt(below(SIGNS.length()));
                CHECK.due(where + "type(" + (int) sign + ")", x.type(sign), model.type(sign));
                break;
            default:
                look(where, a);
        }
    }

    private void typePlan(String where) {
        CHECK.due(where + "clearText()", x.clearText(), model.clearText());
        String text = "";
        int entries = 1 + below(5);
        for (int i = 0; i < entries; i++) {
            text += (i > 0 ? "," : "") + Math.max(0, tick()) % 10000 + ":" + below(10);
        }
        if (below(5) == 0) {
            int place = below(text.length() + 1);
            text = text.substring(0, place) + SIGNS.charAt(below(SIGNS.length())) + text.substring(place);
        }
        calls += 1 + text.length();
        for (char sign : text.toCharArray()) {
            CHECK.due(where + "type(" + (int) sign + ")", x.type(sign), model.type(sign));
        }
    }

    private void look(String where, int a) {
        int b;
        switch (below(24)) {
            case 0:
                CHECK.due(where + "clearText()", x.clearText(), model.clearText());
                break;
            case 1:
                CHECK.due(where + "undo()", x.undo(), model.undo());
                break;
            case 2:
                CHECK.due(where + "keep()", x.keep(), model.keep());
                break;
            case 3:
                CHECK.due(where + "restore()", x.restore(), model.restore());
                break;
            case 4:
            case 5:
                CHECK.due(where + "staysOpen(" + a + ")", x.staysOpen(a), model.staysOpen(a));
                break;
            case 6:
            case 7:
                b = number(3);
                CHECK.due(where + "toPress(" + a + ", " + b + ")", x.toPress(a, b), model.toPress(a, b));
                break;
            case 8:
            case 9:
                CHECK.due(where + "clearIn()", x.clearIn(), model.clearIn());
                break;
            case 10:
            case 11:
                CHECK.due(where + "blownIn(" + a + ")", x.blownIn(a), model.blownIn(a));
                break;
            case 12:
                b = number(1);
                int place = number(12);
                CHECK.due(where + "entry(" + place + ", " + b + ")", x.entry(place, b), model.entry(place, b));
                break;
            case 13:
            case 14:
            case 15:
                b = number(2);
                int back = number(10);
                CHECK.due(where + "event(" + back + ", " + b + ")", x.event(back, b), model.event(back, b));
                break;
            case 16:
            case 17:
            case 18:
                b = number(14);
                CHECK.due(where + "count(" + b + ")", x.count(b), model.count(b));
                break;
            case 19:
                CHECK.due(where + "setting(" + a + ")", x.setting(a), model.setting(a));
                break;
            default:
                b = number(11);
                CHECK.due(where + "burner(" + a + ", " + b + ")", x.burner(a, b), model.burner(a, b));
        }
    }
}
