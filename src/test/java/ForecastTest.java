/** Promises 43 to 45: forecasts. */
public final class ForecastTest {
    private static final int NONE = BarberParliament.NONE;

    public static void main(String[] args) {
        promise43();
        promise43Rankings();
        promise44();
        promise44Bounds();
        promise45();
        promise45Quorum();
        beyondTheLastMinute();
        Check.end();
    }

    private static void promise43() {
        BarberParliament x = Check.house("house 1 0 20 0 30 0 0; member a 1 0 0; member b 2 0 0; member c 3 0 0; member d 4 0 0;");
        x.propose(0, 0);
        Check.due("no request", x.minutesUntilSpeech(0), NONE);
        Check.runAll(x, "ask a for 0; ask b for 0; ask c against 0;", 3);
        Check.due("the first in the list", x.minutesUntilSpeech(0), 1);
        Check.due("the second", x.minutesUntilSpeech(1), 21);
        Check.due("the third", x.minutesUntilSpeech(2), 41);
        Check.due("no request", x.minutesUntilSpeech(3), NONE);
        Check.due("no change", x.undoCount() * 100 + x.minute(), 200);
        x.advance(1);
        Check.due("a speaker has no request", x.minutesUntilSpeech(0), NONE);
        Check.due("the second, a minute later", x.minutesUntilSpeech(1), 20);
        Check.noSuch(x, "minutesUntilSpeech(4)", () -> x.minutesUntilSpeech(4));
        Check.noSuch(x, "minutesUntilSpeech(-1)", () -> x.minutesUntilSpeech(-1));
        StringBuilder setup = new StringBuilder("house 1 0 20 0 2 0 0;");
        for (char name = 'a'; name <= 'l'; name++) {
            setup.append("member ").append(name).append(" 1 0 0;");
        }
        BarberParliament y = Check.house(setup.toString());
        y.propose(0, 0);
        for (int member = 11; member >= 0; member--) {
            y.request(member, 0, true);
        }
        Check.due("the last of twelve", y.minutesUntilSpeech(0), 221);
    }

    private static void promise43Rankings() {
        BarberParliament x = Check.house("house 1 0 5 0 30 0 0; member a 1 0 0; member b 2 0 0; member c 3 0 0; member d 4 0 0;");
        Check.runAll(x, "propose a 0; ask a for 0; ask b for 0; ask c against 0; ask d for 0;", 5);
        int[][] minutes = {{1, 6, 11, 16}, {16, 11, 6, 1}, {1, 6, 11, 16}, {1, 11, 6, 16}};
        for (int ranking = 0; ranking < 4; ranking++) {
            x.setRanking(ranking);
            for (int member = 0; member < 4; member++) {
                Check.due("minutesUntilSpeech of " + member + " by " + ranking, x.minutesUntilSpeech(member), minutes[ranking][member]);
            }
        }
    }

    private static void promise44() {
        BarberParliament x = Check.house("house 1 0 3 20 10 0 0; member a 1 0 0; member b 2 0 0;");
        Check.runAll(x, "propose a 0; propose a 0; ask a for 0; ask b for 0;", 4);
        int[] due = {0, 0, 0, 0, 1, 1, 1, 2, 2, 2, 1, 1};
        for (int minutes = 0; minutes < due.length; minutes++) {
            Check.due("latherAfter(0, " + minutes + ")", x.latherAfter(0, minutes), due[minutes]);
            Check.due("latherAfter(1, " + minutes + ")", x.latherAfter(1, minutes), 0);
        }
        Check.due("latherAfter(0, 19)", x.latherAfter(0, 19), 1);
        Check.due("latherAfter(0, 20)", x.latherAfter(0, 20), 0);
        Check.due("no change", x.minute() * 10 + x.lather(0), 0);
        x.advance(9);
        Check.due("latherAfter(0, 0)", x.latherAfter(0, 0), 2);
        x.withdraw(0);
        Check.due("a withdrawn motion does not dry", x.latherAfter(0, 300), 2);
    }

    private static void promise44Bounds() {
        BarberParliament x = Check.house("house 1 0 3 0 30 9 0; member a 1 0 0;");
        x.propose(0, 0);
        Check.due("latherAfter(0, 300)", x.latherAfter(0, 300), 0);
        Check.badArgument(x, "latherAfter(0, 301)", () -> x.latherAfter(0, 301));
        Check.badArgument(x, "latherAfter(0, -1)", () -> x.latherAfter(0, -1));
        Check.badArgument(x, "latherAfter(0, most)", () -> x.latherAfter(0, Integer.MAX_VALUE));
        Check.noSuch(x, "latherAfter(1, 301)", () -> x.latherAfter(1, 301));
        Check.noSuch(x, "latherAfter(-1, -1)", () -> x.latherAfter(-1, -1));
        BarberParliament y = Check.house("house 1 0 1 0 30 9 0; member a 1 0 0;");
        Check.runAll(y, "propose a 0; wait 29; repeat 9 (ask a for 0; wait 2;);", 20);
        Check.due("lather in minute 47", y.lather(0), 9);
        Check.due("latherAfter 252 minutes", y.latherAfter(0, 252), 1);
        Check.due("latherAfter 253 minutes, in minute 300", y.latherAfter(0, 253), 0);
    }

    private static void promise45() {
        BarberParliament x = Check.house("house 1 0 3 20 10 2 0; member a 1 0 0; member b 2 0 0; member c 2 0 0;");
        Check.runAll(x, "propose a 0; propose a 0; ask a for 0;", 3);
        Check.due("one speech is too few", x.minutesUntilVote(0), NONE);
        Check.runAll(x, "ask b for 0;", 1);
        Check.due("two speeches are enough", x.minutesUntilVote(0), 7);
        Check.due("nothing about this motion", x.minutesUntilVote(1), NONE);
        Check.runAll(x, "ask c for 0;", 1);
        Check.due("a third one starts at once and ends when it is dry", x.minutesUntilVote(0), 10);
        Check.due("no change", x.minute(), 0);
        x.advance(9);
        Check.due("a minute before", x.minutesUntilVote(0), 1);
        x.advance(1);
        Check.due("nothing prevents it", x.minutesUntilVote(0), 0);
        x.vote(0);
        Check.due("decided", x.minutesUntilVote(0), NONE);
        Check.noSuch(x, "minutesUntilVote(2)", () -> x.minutesUntilVote(2));
        Check.noSuch(x, "minutesUntilVote(-1)", () -> x.minutesUntilVote(-1));
    }

    private static void promise45Quorum() {
        BarberParliament x = Check.house("house 1 0 3 20 10 0 2; member a 1 0 0; member b 2 15 0; member c 2 10 0;");
        x.propose(0, 10);
        Check.due("leanings", x.leaning(0, 0) * 100 + x.leaning(1, 0) * 10 + x.leaning(2, 0), -500 + 5);
        Check.due("a quorum of two", x.minutesUntilVote(0), 0);
        BarberParliament y = Check.house("house 1 0 3 20 10 0 3; member a 1 0 0; member b 2 15 0; member c 2 10 0;");
        y.propose(0, 10);
        Check.due("a quorum of three", y.minutesUntilVote(0), NONE);
        y.request(2, 0, true);
        Check.due("a speech decides the undecided", y.minutesUntilVote(0), 4);
    }

    private static void beyondTheLastMinute() {
        BarberParliament x = Check.house("house 1 0 3 20 10 1 0; member a 1 0 0; member b 2 0 0;");
        for (int i = 0; i < 4; i++) {
            Check.runAll(x, "repeat 20 (wait 60; wait 60;);", 40);
        }
        Check.runAll(x, "repeat 6 (wait 60;); wait 39;", 7);
        Check.due("minute", x.minute(), 9999);
        Check.runAll(x, "propose a 0; ask a for 0; ask b for 0;", 3);
        Check.due("minutesUntilSpeech", x.minutesUntilSpeech(0), 1);
        Check.due("minutesUntilSpeech", x.minutesUntilSpeech(1), 4);
        Check.due("minutesUntilVote", x.minutesUntilVote(0), 7);
        Check.due("latherAfter", x.latherAfter(0, 7), 2);
        Check.due("latherAfter the drying minute 10010", x.latherAfter(0, 11), 1);
        Check.due("minute", x.minute(), 9999);
    }
}
