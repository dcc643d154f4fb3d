import java.util.ArrayList;
import java.util.List;

/** Runs of calls on SmellMoorings and on the model beside it, drawn from a fixed row of numbers. */
public final class ModelTest {
    private static final int RUNS = 500;
    private static final String[] CALLS = {"write", "wipe", "fault", "lay", "post", "crew", "pull", "pass", "wind", "put",
        "smell", "take", "undo", "behind", "stands", "gale", "hold", "brings", "keeps", "instead", "seen", "forget", "may",
        "stowaway", "likely", "voyage", "keep", "back", "count"};
    private static final Due DUE = new Due("ModelTest");

    private long state;

    private ModelTest(long seed) {
        state = seed * 0x9E3779B97F4A7C15L + 1;
    }

    public static void main(String[] args) {
        for (int run = 1; run <= RUNS; run++) {
            new ModelTest(run).run(run);
        }
        DUE.end();
    }

    /** From 0 to below. */
    private int draw(int below) {
        state = state * 6364136223846793005L + 1442695040888963407L;
        return (int) ((state >>> 33) % below);
    }

    /** From 0 to most, and now and then one that is none of these. */
    private int about(int least, int most) {
        switch (draw(60)) {
            case 0: return least - 1;
            case 1: return most + 1;
            case 2: return draw(2) == 0 ? Integer.MIN_VALUE : Integer.MAX_VALUE;
            default: return least + draw(most - least + 1);
        }
    }

    private void run(int run) {
        SmellMoorings ship = new SmellMoorings();
        Model model = new Model();
        List<String> calls = new ArrayList<>();
        if (run % 5 != 0) {
            writeBoth(ship, model, text());
            compare(calls, ship, model, "lay", new int[3], run);
        }
        int most = 60 + draw(140);
        for (int i = 0; i < most; i++) {
            String call = CALLS[draw(CALLS.length)];
            if ((call.equals("wipe") || call.equals("lay")) && draw(4) > 0) {
                call = "put";
            }
            if (call.equals("lay") && draw(2) == 0) {
                ship.wipe();
                model.wipe();
                writeBoth(ship, model, text());
            }
            compare(calls, ship, model, call, numbersFor(call, model), run);
        }
        for (int what = 0; what <= 12; what++) {
            compare(calls, ship, model, "count", new int[] {what, 0, 0}, run);
        }
    }

    private static void writeBoth(SmellMoorings ship, Model model, String text) {
        for (char letter : text.toCharArray()) {
            ship.write(letter);
            model.write(letter);
        }
    }

    /** Mostly laid, here and there with a fault; few smells, so that many are drawn. */
    private String text() {
        StringBuilder text = new StringBuilder();
        int smells = 1 + draw(6);
        if (draw(4) > 0) {
            text.append("s").append(draw(9)).append(',').append(draw(9)).append(',').append(draw(3) > 0 ? draw(4) : draw(21)).append(';');
        }
        if (draw(4) > 0) {
            text.append("w").append(draw(5)).append(',').append(draw(2) > 0 ? draw(8) : draw(21)).append(';');
        }
        for (int p = 1 + draw(5); p > 0; p--) {
            text.append("p").append(draw(9)).append(',').append(draw(9)).append(',').append(draw(smells)).append(';');
        }
        for (int c = 1 + draw(7); c > 0; c--) {
            text.append("c").append(draw(4)).append(',').append(draw(smells)).append(',').append(1 + draw(9)).append(';');
        }
        if (draw(6) == 0) {
            text.setCharAt(draw(text.length()), "swpc0123456789,; x".charAt(draw(18)));
        }
        if (draw(12) == 0) {
            text.append("p0,0,0;c1,1,1;s02,03,04;w4,20;".substring(7 * draw(3)));
        }
        return text.toString();
    }

    private int[] numbersFor(String call, Model model) {
        int posts = model.count(0);
        int crew = model.count(1);
        switch (call) {
            case "write": return new int[] {draw(30) == 0 ? about(32, 126) : "swpc0123456789,;".charAt(draw(16)), 0, 0};
            case "post": return new int[] {about(0, posts - 1), about(0, 3), 0};
            case "crew": return new int[] {about(0, crew - 1), about(0, 5), 0};
            case "pull": return new int[] {about(0, 2), 0, 0};
            case "pass": return new int[] {draw(3) == 0 ? about(1, 20) : about(1, 3), 0, 0};
            case "wind": return new int[] {about(0, 4), draw(2) == 0 ? about(0, 20) : about(0, 6), 0};
            case "put": return new int[] {about(0, posts - 1), about(0, 8), about(0, 8)};
            case "smell": return new int[] {about(0, posts - 1), about(0, 5), 0};
            case "take": return new int[] {about(0, posts - 1), 0, 0};
            case "behind": return new int[] {about(0, 40), about(0, 1), 0};
            case "gale": return new int[] {about(1, 4), 0, 0};
            case "brings": return near(model, about(0, 1));
            case "keeps": case "stowaway": return new int[] {about(0, 1), 0, 0};
            case "seen": return sight(model);
            case "may": return new int[] {about(0, crew - 1), about(0, 2), 0};
            case "likely": return new int[] {about(0, 7), about(0, 10), about(0, 1)};
            case "voyage": return new int[] {about(0, 9999), about(1, 60), about(0, 2)};
            case "count": return new int[] {about(0, 12), 0, 0};
            default: return new int[3];
        }
    }

    private int[] near(Model model, int what) {
        if (draw(2) == 0) {
            return new int[] {about(0, 8), about(0, 8), what};
        }
        return new int[] {model.count(3) + draw(5) - 2, model.count(4) + draw(5) - 2, what};
    }

    /** Mostly what is so, as else nobody could be it. */
    private int[] sight(Model model) {
        int where = draw(8);
        return draw(3) == 0 ? new int[] {about(0, 8), about(0, 8), about(0, 4)}
            : where > 5 ? new int[] {draw(9), draw(9), 0}
            : new int[] {model.count(3), model.count(4), model.pull(2)};
    }

    private static void compare(List<String> calls, SmellMoorings ship, Model model, String call, int[] n, int run) {
        String told = "run " + run + ", call " + calls.size() + ": " + call + "(" + n[0] + ", " + n[1] + ", " + n[2] + ")";
        calls.add(told);
        DUE.due(told, ofModel(model, call, n), ofShip(ship, call, n));
    }

    private static int ofShip(SmellMoorings s, String call, int[] n) {
        return switch (call) {
            case "write" -> s.write(n[0]);
            case "wipe" -> s.wipe();
            case "fault" -> s.fault();
            case "lay" -> s.lay();
            case "post" -> s.post(n[0], n[1]);
            case "crew" -> s.crew(n[0], n[1]);
            case "pull" -> s.pull(n[0]);
            case "pass" -> s.pass(n[0]);
            case "wind" -> s.wind(n[0], n[1]);
            case "put" -> s.put(n[0], n[1], n[2]);
            case "smell" -> s.smell(n[0], n[1]);
            case "take" -> s.take(n[0]);
            case "undo" -> s.undo();
            case "behind" -> s.behind(n[0], n[1]);
            case "stands" -> s.stands();
            case "gale" -> s.gale(n[0]);
            case "hold" -> s.hold();
            case "brings" -> s.brings(n[0], n[1], n[2]);
            case "keeps" -> s.keeps(n[0]);
            case "instead" -> s.instead();
            case "seen" -> s.seen(n[0], n[1], n[2]);
            case "forget" -> s.forget();
            case "may" -> s.may(n[0], n[1]);
            case "stowaway" -> s.stowaway(n[0]);
            case "likely" -> s.likely(n[0], n[1], n[2]);
            case "voyage" -> s.voyage(n[0], n[1], n[2]);
            case "keep" -> s.keep();
            case "back" -> s.back();
            default -> s.count(n[0]);
        };
    }

    private static int ofModel(Model m, String call, int[] n) {
        return switch (call) {
            case "write" -> m.write(n[0]);
            case "wipe" -> m.wipe();
            case "fault" -> m.fault();
            case "lay" -> m.lay();
            case "post" -> m.post(n[0], n[1]);
            case "crew" -> m.crew(n[0], n[1]);
            case "pull" -> m.pull(n[0]);
            case "pass" -> m.pass(n[0]);
            case "wind" -> m.wind(n[0], n[1]);
            case "put" -> m.put(n[0], n[1], n[2]);
            case "smell" -> m.smell(n[0], n[1]);
            case "take" -> m.take(n[0]);
            case "undo" -> m.undo();
            case "behind" -> m.behind(n[0], n[1]);
            case "stands" -> m.stands();
            case "gale" -> m.gale(n[0]);
            case "hold" -> m.hold();
            case "brings" -> m.brings(n[0], n[1], n[2]);
            case "keeps" -> m.keeps(n[0]);
            case "instead" -> m.instead();
            case "seen" -> m.seen(n[0], n[1], n[2]);
            case "forget" -> m.forget();
            case "may" -> m.may(n[0], n[1]);
            case "stowaway" -> m.stowaway(n[0]);
            case "likely" -> m.likely(n[0], n[1], n[2]);
            case "voyage" -> m.voyage(n[0], n[1], n[2]);
            case "keep" -> m.keep();
            case "back" -> m.back();
            default -> m.count(n[0]);
        };
    }
}
