import java.util.function.LongSupplier;

/**
 * Long runs of calls, always the same ones, on the class and on the model of it. A run looks at the answers of its
 * calls, and at everything only once, at its end: an object answers 512 calls.
 */
public final class ModelTest {
    private static final String[] WORDS = {"house", "member", "propose", "ask", "rebut", "wait", "vote", "withdraw", "sharpen",
        "rank", "repeat", "for", "against", "arrival", "heaviest", "quietest", "contrast", "ada", "ben", "toolong", "zed", "a", "b",
        ";", "(", ")", "0", "1", "2", "5", "007", "16", "21", "61", "99999999999", "X", "\n", "-", "\u00e4", "", " "};
    private static final String[] NAMES = {"ada", "ben", "cai", "dov", "eli", "a", "b", "for", "member", "zzzzzz", "vote", "house"};
    private static final String[] RANKINGS = {"arrival", "heaviest", "quietest", "contrast"};

    private long seed;
    private BarberParliament x;
    private Model y;

    public static void main(String[] args) {
        for (int run = 0; run < 16000; run++) {
            new ModelTest().go(run);
        }
        Check.end();
    }

    private int below(int bound) {
        seed = seed * 6364136223846793005L + 1442695040888963407L;
        return (int) ((seed >>> 33) % bound);
    }

    /** Mostly a number that exists, sometimes one beside the range. */
    private int about(int size) {
        return below(12) == 0 ? below(size + 4) - 2 : below(Math.max(size, 1));
    }

    private void go(int run) {
        seed = run * 7919L + 17;
        x = new BarberParliament();
        y = new Model();
        if (below(4) > 0) {
            both("load", setup());
        }
        int calls = below(45);
        for (int call = 0; call < calls; call++) {
            step(run, call);
        }
        Check.due("run " + run + ", everything after " + calls + " calls", Check.all(x), y.all());
    }

    private void step(int run, int call) {
        String what = "run " + run + ", call " + call;
        int members = y.now.house.size();
        int motions = y.now.motions.size();
        int member = about(members);
        int motion = about(motions);
        int number = below(64) - 1;
        switch (below(40)) {
            case 0: case 1: case 2: same(what + " propose", () -> x.propose(member, number % 23), () -> y.propose(member, number % 23)); break;
            case 3: case 4: case 5: case 6: case 7: case 8: case 9: case 10:
                boolean isFor = below(2) == 0;
                same(what + " request", () -> x.request(member, motion, isFor), () -> y.request(member, motion, isFor));
                break;
            case 11: case 12: case 13: case 14:
                int chair = about(y.now.chairs.length);
                same(what + " rebut", () -> x.rebut(member, chair), () -> y.rebut(member, chair));
                break;
            case 15: case 16: case 17: case 18: case 19: case 20:
                int minutes = below(4) == 0 ? number : 1 + below(5);
                same(what + " advance", () -> x.advance(minutes), () -> y.advance(minutes));
                break;
            case 21: case 22: case 23: same(what + " vote", () -> x.vote(motion) ? 1 : 0, () -> y.vote(motion) ? 1 : 0); break;
            case 24: same(what + " withdraw", () -> x.withdraw(motion), () -> y.withdraw(motion)); break;
            case 25: case 26: same(what + " sharpen", () -> x.sharpen(member), () -> y.sharpen(member)); break;
            case 27: case 28: same(what + " setRanking", () -> x.setRanking(number % 5), () -> y.setRanking(number % 5)); break;
            case 29: case 30: same(what + " undo", () -> x.undo(), () -> y.undo()); break;
            case 31: same(what + " save", () -> x.save(number % 3), () -> y.save(number % 3)); break;
            case 32: same(what + " restore", () -> x.restore(number % 3), () -> y.restore(number % 3)); break;
            case 33: case 34: case 35: both(what + " runScript", script(4, 0)); break;
            case 36: both(what + (below(3) == 0 ? " load" : " runScript"), noise()); break;
            case 37: both(what + " load", below(3) > 0 ? spoilt(setup()) : setup()); break;
            case 38: both(what + " runScript", spoilt(script(6, 0))); break;
            default: write(); break;
        }
        int later = below(310) - 3;
        same(what + " latherAfter", () -> x.latherAfter(motion, later), () -> y.latherAfter(motion, later));
    }

    private void same(String what, LongSupplier class_, LongSupplier model) {
        Check.due(what, answer(class_), answer(model));
    }

    private static String answer(LongSupplier call) {
        try {
            return Long.toString(call.getAsLong());
        } catch (RuntimeException e) {
            return e.getClass().getName();
        }
    }

    private void both(String what, String text) {
        if (text.length() > 700) {
            return;
        }
        x.truncate(0);
        Check.write(x, text);
        y.text.setLength(0);
        y.text.append(text);
        if (what.endsWith("load")) {
            same(what + " of " + text, () -> x.load(), () -> y.load());
        } else {
            same(what + " of " + text, () -> x.runScript(), () -> y.runScript());
        }
    }

    private void write() {
        if (below(2) == 0) {
            x.writeChairs();
            y.writeChairs();
        } else {
            x.writeRequests();
            y.writeRequests();
        }
    }

    private String noise() {
        StringBuilder text = new StringBuilder();
        for (int i = below(12); i >= 0; i--) {
            text.append(WORDS[below(WORDS.length)]).append(below(3) > 0 ? " " : "");
        }
        return text.toString();
    }

    /** One token or sign more, one less, or another one. */
    private String spoilt(String text) {
        int from = below(text.length() + 1);
        int to = Math.min(text.length(), from + below(3));
        return text.substring(0, from) + (below(2) == 0 ? WORDS[below(WORDS.length)] : "") + text.substring(to);
    }

    private String setup() {
        StringBuilder text = new StringBuilder("house ");
        int[] least = {1, 0, 1, 0, 2, 0, 0};
        int[] most = {4, 5, 5, 20, 12, 3, 4};
        for (int i = 0; i < least.length; i++) {
            text.append(least[i] + below(most[i] - least[i] + 1)).append(' ');
        }
        text.append(';');
        int members = below(12) + (below(10) == 0 ? 2 : 1);
        int shift = below(12);
        for (int i = 0; i < members; i++) {
            text.append("member ").append(NAMES[(i + shift) % 12]).append(' ');
            text.append(1 + below(9)).append(' ').append(below(21)).append(' ').append(below(8)).append(';');
        }
        return text.toString();
    }

    private String name() {
        return y.now.house.names.get(below(y.now.house.size()));
    }

    private String script(int commands, int depth) {
        StringBuilder text = new StringBuilder();
        for (int i = below(commands) + 1; i > 0; i--) {
            text.append(command(depth)).append(";");
        }
        return text.toString();
    }

    private String command(int depth) {
        int motion = below(Math.max(1, y.now.motions.size()));
        switch (below(12)) {
            case 0: return "propose " + name() + " " + below(21);
            case 1: case 2: case 3: return "ask " + name() + (below(2) == 0 ? " for " : " against ") + motion;
            case 4: return "rebut " + name() + " " + below(y.now.house.chairs);
            case 5: case 6: case 7: return "wait " + (1 + below(6));
            case 8: return "vote " + motion;
            case 9: return below(2) == 0 ? "withdraw " + motion : "sharpen " + name();
            case 10: return "rank " + RANKINGS[below(4)];
            default: return depth < 3 ? "repeat " + below(21) + "(" + script(4, depth + 1) + ")" : "wait 1";
        }
    }
}
