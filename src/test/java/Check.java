import java.util.function.LongSupplier;

/** What the tests share: counting wrong answers, writing texts, and looking at everything that an object shows. */
final class Check {
    private static int checks = 0;
    private static int wrong = 0;
    private static String sentence = "";

    private Check() {
    }

    static void due(String call, long got, long want) {
        checks++;
        if (got != want) {
            report(call + " answered " + got + ", due is " + want);
        }
    }

    static void due(String call, String got, String want) {
        checks++;
        if (!got.equals(want)) {
            report(call + " answered\n  " + got + "\n, due is\n  " + want);
        }
    }

    static void yes(String call, boolean got) {
        due(call, got ? 1 : 0, 1);
    }

    static void no(String call, boolean got) {
        due(call, got ? 1 : 0, 0);
    }

    /** A test of one sentence of the document. What is wrong in it is reported with the sentence. */
    static void holds(String tested, Runnable test) {
        sentence = tested;
        try {
            test.run();
        } catch (RuntimeException e) {
            report("threw " + e + " in " + e.getStackTrace()[0]);
        }
        sentence = "";
    }

    /**
     * The call must throw exactly this exception and change nothing. A few calls must be enough to see that, as an
     * object answers 512 of them; RefusalsTest looks at everything.
     */
    static void refused(BarberParliament x, String call, Class<?> want, LongSupplier made) {
        String before = brief(x);
        due(call + " throws", thrownBy(made), want.getName());
        due("the state after the refused " + call, brief(x), before);
    }

    static String thrownBy(LongSupplier made) {
        try {
            made.getAsLong();
        } catch (RuntimeException e) {
            return e.getClass().getName();
        }
        return "nothing";
    }

    static void noSuch(BarberParliament x, String call, LongSupplier made) {
        refused(x, call, IndexOutOfBoundsException.class, made);
    }

    static void badArgument(BarberParliament x, String call, LongSupplier made) {
        refused(x, call, IllegalArgumentException.class, made);
    }

    static void badState(BarberParliament x, String call, LongSupplier made) {
        refused(x, call, IllegalStateException.class, made);
    }

    static void noElement(BarberParliament x, String call, LongSupplier made) {
        refused(x, call, java.util.NoSuchElementException.class, made);
    }

    private static void report(String line) {
        wrong++;
        if (wrong <= 30) {
            System.out.println(sentence.isEmpty() ? line : "[" + sentence + "] " + line);
        }
    }

    static void end() {
        System.out.println(checks + " checks, " + wrong + " wrong");
        if (wrong != 0 || checks == 0) {
            System.exit(1);
        }
    }

    /** Appends a text, whose signs are 1 to 255. */
    static void write(BarberParliament x, String text) {
        int[] words = new int[5];
        for (int from = 0; from < text.length(); from += 20) {
            java.util.Arrays.fill(words, 0);
            for (int i = 0; i < 20 && from + i < text.length(); i++) {
                words[i / 4] |= text.charAt(from + i) << (24 - 8 * (i % 4));
            }
            x.append(words[0], words[1], words[2], words[3], words[4]);
        }
    }

    static BarberParliament house(String setup) {
        BarberParliament x = new BarberParliament();
        write(x, setup);
        due("load of " + setup, x.load(), 0);
        return x;
    }

    static int run(BarberParliament x, String script) {
        write(x, script);
        return x.runScript();
    }

    /** The whole script must be executed. */
    static void runAll(BarberParliament x, String script, int commands) {
        due("runScript of " + script, run(x, script), commands);
    }

    static int find(BarberParliament x, String name) {
        x.truncate(0);
        write(x, name);
        int member = x.findMember();
        x.truncate(0);
        return member;
    }

    static String output(BarberParliament x) {
        StringBuilder text = new StringBuilder();
        int sign = x.outputByte(0);
        while (sign != BarberParliament.NONE) {
            text.append((char) sign);
            sign = x.outputByte(text.length());
        }
        return text.toString();
    }

    /** What tells two states apart in few calls. */
    static String brief(BarberParliament x) {
        StringBuilder text = new StringBuilder();
        int[] told = {x.minute(), x.ranking(), x.motionCount(), x.requestCount(), x.freeMirrors(), x.tips(), x.voteCount(),
            x.rebuttalCount(), x.undoCount(), x.errorCode(), x.errorPosition(), x.append(0, 0, 0, 0, 0), x.speaker(0), x.purse(0)};
        for (int number : told) {
            text.append(number).append(' ');
        }
        return text.toString();
    }

    /** Everything that undo and restore bring back. Of a large house that takes most of the 512 calls. */
    static String state(BarberParliament x) {
        int motions = x.motionCount();
        StringBuilder text = new StringBuilder();
        text.append("minute ").append(x.minute()).append(" ranking ").append(x.ranking());
        text.append(" mirrors ").append(x.freeMirrors()).append(" requests ").append(x.requestCount());
        text.append(" tips ").append(x.tips()).append(" votes ").append(x.voteCount());
        text.append(" rebuttals ").append(x.rebuttalCount()).append(" contradictions ").append(x.contradictions());
        for (int ranking = 0; ranking < 4; ranking++) {
            text.append(" first ").append(x.firstBy(ranking));
        }
        for (int member = x.memberCount() - 1; member >= 0; member--) {
            text.append("; member ").append(x.weight(member)).append(' ').append(x.purse(member));
            text.append(' ').append(x.sharpness(member)).append(' ').append(x.speechesOf(member));
            text.append(' ').append(x.chairOf(member)).append(' ').append(x.placeInList(member));
            text.append(' ').append(x.minutesUntilSpeech(member));
            for (int motion = 0; motion < motions; motion++) {
                text.append(" leaning ").append(x.leaning(member, motion));
            }
        }
        for (int motion = 0; motion < motions; motion++) {
            text.append("; motion ").append(x.proposer(motion)).append(' ').append(x.motionState(motion));
            text.append(' ').append(x.lather(motion)).append(' ').append(x.obstacle(motion));
            text.append(' ').append(x.decisiveVoter(motion)).append(' ').append(x.minutesUntilVote(motion));
        }
        for (int chair = x.chairCount() - 1; chair >= 0; chair--) {
            int speaker = x.speaker(chair);
            text.append("; chair ").append(speaker).append(' ').append(x.remainingTime(chair));
            text.append(' ').append(x.isRebutted(chair)).append(' ').append(speaker < 0 ? -1 : x.speechMotion(chair));
        }
        return text.toString();
    }

    /** The state, and what undo leaves as it is. */
    static String all(BarberParliament x) {
        return state(x) + "; undo " + x.undoCount() + " error " + x.errorCode() + " " + x.errorPosition()
            + " text " + x.append(0, 0, 0, 0, 0) + " output " + output(x);
    }
}
