/** Promises 46 to 53: the changes. */
public final class ChangesTest {
    private static final int MOST = Integer.MAX_VALUE;
    private static final int LEAST = Integer.MIN_VALUE;

    public static void main(String[] args) {
        promise46();
        promise47();
        promise48();
        promise48MirrorsAndSides();
        promise49Steps();
        promise49Drying();
        promise49EndOfASpeech();
        promise49OrderOfChairs();
        promise49Bounds();
        promise50();
        promise50Tips();
        promise51();
        promise52();
        promise53();
        Check.end();
    }

    private static void promise46() {
        BarberParliament x = new BarberParliament();
        Check.badArgument(x, "propose(0, 21)", () -> x.propose(0, 21));
        Check.badArgument(x, "propose(0, -1)", () -> x.propose(0, -1));
        Check.badArgument(x, "propose(4, least)", () -> x.propose(4, LEAST));
        Check.noSuch(x, "propose(5, 0)", () -> x.propose(5, 0));
        Check.noSuch(x, "propose(-1, 0)", () -> x.propose(-1, 0));
        Check.noSuch(x, "propose(5, 21)", () -> x.propose(5, 21));
        for (int motion = 0; motion < 16; motion++) {
            Check.due("propose", x.propose(4 - motion % 5, motion == 0 ? 20 : 0), motion);
            Check.due("undoCount", x.undoCount(), Math.min(motion + 1, 8));
        }
        Check.due("leaning at a distance", x.leaning(0, 0), -11);
        Check.due("leaning at a distance", x.leaning(0, 15), 1);
        Check.due("state", x.motionState(15), BarberParliament.OPEN);
        Check.due("lather", x.lather(15), 0);
        Check.badState(x, "propose(0, 0) of a 17th", () -> x.propose(0, 0));
        Check.badArgument(x, "propose(0, 21) of a 17th", () -> x.propose(0, 21));
        Check.noSuch(x, "propose(5, 21) of a 17th", () -> x.propose(5, 21));
        x.withdraw(0);
        Check.badState(x, "propose(0, 0) with a withdrawn one among 16", () -> x.propose(0, 0));
    }

    private static void promise47() {
        BarberParliament x = new BarberParliament();
        Check.noSuch(x, "request(0, 0, true)", () -> x.request(0, 0, true));
        Check.runAll(x, "propose ada 8; propose ben 4; withdraw 1;", 3);
        Check.noSuch(x, "request(5, 0, true)", () -> x.request(5, 0, true));
        Check.noSuch(x, "request(-1, 0, true)", () -> x.request(-1, 0, true));
        Check.noSuch(x, "request(0, 2, true)", () -> x.request(0, 2, true));
        Check.noSuch(x, "request(0, -1, false)", () -> x.request(0, -1, false));
        Check.noSuch(x, "request(5, 1, true)", () -> x.request(5, 1, true));
        Check.badState(x, "request about a withdrawn motion", () -> x.request(0, 1, true));
        Check.due("request", x.request(0, 0, true), 0);
        Check.due("request", x.request(1, 0, false), 1);
        Check.due("request against one's leaning", x.request(2, 0, true), 2);
        Check.badState(x, "a second request", () -> x.request(0, 0, false));
        Check.noSuch(x, "a second request about no motion", () -> x.request(0, 2, false));
        Check.due("undoCount", x.undoCount(), 4);
        x.advance(1);
        Check.badState(x, "request of a speaker", () -> x.request(0, 0, true));
        Check.due("request of another", x.request(3, 0, true), 1);
        x.advance(3);
        Check.due("request after the speech", x.request(0, 0, true), 0);
        x.writeRequests();
        Check.due("the sides", Check.output(x), "ada+0");
        x.advance(3);
        x.advance(3);
        x.vote(0);
        Check.badState(x, "request about a decided motion", () -> x.request(1, 0, true));
    }

    private static void promise48() {
        BarberParliament x = new BarberParliament();
        Check.badState(x, "rebut of a free chair", () -> x.rebut(0, 0));
        Check.noSuch(x, "rebut(0, 2)", () -> x.rebut(0, 2));
        Check.noSuch(x, "rebut(0, -1)", () -> x.rebut(0, -1));
        Check.noSuch(x, "rebut(5, 0)", () -> x.rebut(5, 0));
        Check.noSuch(x, "rebut(-1, 0)", () -> x.rebut(-1, 0));
        // Leanings: ada 1, ben 4, cai -2, dov 1, eli 3.
        Check.runAll(x, "propose ada 8; ask cai against 0; ask ben for 0; wait 1;", 4);
        Check.badState(x, "rebut by the speaker", () -> x.rebut(2, 0));
        Check.badState(x, "rebut by the speaker of the other chair", () -> x.rebut(1, 0));
        Check.badState(x, "rebut by the opposed speaker of the other chair", () -> x.rebut(2, 1));
        Check.badState(x, "rebut of a speech for it in favour of it", () -> x.rebut(0, 1));
        Check.noSuch(x, "rebut by nobody", () -> x.rebut(5, 1));
        Check.due("rebut", x.rebut(3, 0), 0);
        Check.badState(x, "rebut of a rebutted speech", () -> x.rebut(4, 0));
        Check.due("undoCount", x.undoCount(), 2);
        Check.due("isRebutted", x.isRebutted(0) ? 1 : 0, 1);
        x.advance(3);
        Check.badState(x, "rebut of a chair that is free again", () -> x.rebut(3, 0));
        Check.badState(x, "rebut of a chair that is free again", () -> x.rebut(2, 1));
    }

    private static void promise48MirrorsAndSides() {
        BarberParliament x = Check.house("house 3 2 3 0 30 0 0; member a 1 5 0; member b 1 5 0; member c 1 5 0;"
            + " member pro 1 5 0; member con 1 20 0; member nil 1 10 0;");
        Check.runAll(x, "propose a 5; ask a for 0; ask b against 0; ask c for 0; ask nil for 0; wait 1;", 6);
        Check.badState(x, "rebut by the undecided", () -> x.rebut(5, 0));
        Check.badState(x, "rebut by the undecided", () -> x.rebut(5, 1));
        Check.badState(x, "rebut of a speech for it in favour", () -> x.rebut(3, 0));
        Check.badState(x, "rebut of a speech against it opposed", () -> x.rebut(4, 1));
        Check.due("rebut of a speech for it", x.rebut(4, 0), 1);
        Check.due("a member may rebut twice", x.rebut(4, 2), 0);
        Check.badState(x, "rebut without a mirror", () -> x.rebut(3, 1));
        Check.runAll(x, "wait 3; ask a against 0; wait 1;", 3);
        Check.due("nil speaks", x.speaker(0), 5);
        Check.due("rebut by a member without sharpness or request", x.rebut(4, 0), 1);
        Check.due("rebut of a speech against it", x.rebut(3, 1), 0);
        Check.due("rebuttalCount", x.rebuttalCount(), 4);
        BarberParliament y = Check.house("house 1 0 3 0 30 0 0; member a 1 5 0; member b 1 20 0;");
        Check.runAll(y, "propose a 5; ask a for 0; wait 1;", 3);
        Check.badState(y, "rebut in a house without mirrors", () -> y.rebut(1, 0));
        BarberParliament z = Check.house("house 1 1 3 0 30 0 0; member a 1 5 0; member b 1 20 0;");
        Check.runAll(z, "propose a 5; repeat 5 (propose a 20;); vote 1; vote 2; vote 3; vote 4; vote 5; ask b for 0; ask a for 0; wait 1;", 14);
        z.advance(3);
        Check.due("a blunt razor does not hinder a rebuttal", z.rebut(1, 0) * 10 + z.sharpness(1), 0);
    }

    private static void promise49Steps() {
        BarberParliament x = new BarberParliament();
        Check.runAll(x, "propose ada 8; ask cai for 0; ask ben for 0; ask ada for 0; ask eli for 0; ask dov for 0;", 6);
        Check.due("no speech ends", x.advance(3), 0);
        Check.due("remainingTime", x.remainingTime(0), 1);
        Check.due("two speeches end", x.advance(1), 2);
        Check.due("the chairs are filled in the same minute", x.speaker(0) * 10 + x.speaker(1), 4);
        Check.due("remainingTime", x.remainingTime(0), 3);
        Check.due("two end in six minutes and one goes on", x.advance(5), 2);
        Check.due("the fifth speaks from the first free chair", x.speaker(0) * 10 + x.speaker(1), 30 + BarberParliament.NONE);
        Check.due("the last ends", x.advance(1), 1);
        Check.due("nothing ends", x.advance(60), 0);
        Check.due("minute", x.minute(), 70);
        Check.due("undoCount", x.undoCount(), 6);
    }

    private static void promise49Drying() {
        BarberParliament x = new BarberParliament();
        Check.runAll(x, "propose ada 8; propose ada 8; wait 1; ask cai for 0; wait 3;", 5);
        Check.due("lather before", x.lather(0), 0);
        x.advance(1);
        Check.due("it dries before the speech ends in minute 5", x.lather(0), 1);
        Check.runAll(x, "wait 4;", 1);
        Check.due("lather in minute 9", x.lather(0), 1);
        Check.runAll(x, "wait 1;", 1);
        Check.due("lather in minute 10", x.lather(0), 0);
        Check.runAll(x, "wait 5;", 1);
        Check.due("lather in minute 15", x.lather(0), 0);
        BarberParliament y = Check.house("house 1 0 1 20 2 0 0; member a 1 5 0; member b 1 5 0;");
        Check.runAll(y, "propose a 5; propose a 5; ask a for 0; wait 2; ask b for 1; wait 1; withdraw 0; wait 1;", 8);
        Check.due("lather of a withdrawn motion does not dry", y.lather(0), 1);
        Check.due("lather of an open motion", y.lather(1), 1);
        Check.runAll(y, "wait 2;", 1);
        Check.due("lather of an open motion", y.lather(1), 0);
        Check.due("lather of a withdrawn motion", y.lather(0), 1);
    }

    private static void promise49EndOfASpeech() {
        BarberParliament x = Check.house("house 1 1 2 6 30 0 0; member a 1 10 0; member b 1 16 0; member c 1 17 0;"
            + " member d 1 4 0; member e 1 3 0; member f 1 10 0;");
        Check.runAll(x, "propose a 10; propose a 10; ask a for 0; wait 2;", 4);
        int[] before = {5, -1, -2, -1, -2, 5};
        leanings(x, "before the end", before);
        Check.due("the speech ends", x.advance(1), 1);
        leanings(x, "after a speech for it", new int[] {5, 1, -2, 1, -2, 7});
        Check.due("another motion", x.leaning(5, 1), 5);
        Check.runAll(x, "ask f against 0; wait 3;", 2);
        leanings(x, "after a speech against it", new int[] {3, -1, -2, -1, -2, 7});
        Check.runAll(x, "ask f against 0; wait 1; rebut a 0; wait 2;", 4);
        leanings(x, "after a rebutted speech against it", new int[] {2, -2, -2, -2, -2, 7});
        Check.runAll(x, "ask f for 0; wait 1; rebut c 0; wait 2;", 4);
        leanings(x, "after a rebutted speech for it", new int[] {3, -1, -2, -1, -2, 7});
        Check.due("the mirror is free", x.freeMirrors(), 1);
        BarberParliament y = Check.house("house 1 1 2 0 30 0 0; member a 1 10 0; member b 1 11 0; member c 1 10 0;");
        Check.runAll(y, "propose a 10; ask a for 0; wait 3;", 3);
        leanings(y, "in a house without reach", new int[] {5, 4, 7});
    }

    private static void leanings(BarberParliament x, String when, int[] due) {
        for (int member = 0; member < due.length; member++) {
            Check.due("leaning of " + member + " " + when, x.leaning(member, 0), due[member]);
        }
    }

    private static void promise49OrderOfChairs() {
        BarberParliament x = Check.house("house 2 2 1 20 30 0 0; member a 1 10 0; member b 1 10 0; member c 1 10 0; member d 1 10 0;");
        Check.runAll(x, "propose a 10; repeat 8 (ask a for 0; wait 2;);", 17);
        leanings(x, "at the most", new int[] {5, 20, 20, 20});
        Check.runAll(x, "ask a for 0; ask b against 0; wait 2;", 3);
        leanings(x, "when chair 0 ends before chair 1", new int[] {3, 20, 18, 18});
        Check.runAll(x, "ask b against 0; ask a for 0; wait 2; ask b against 0; ask a for 0; wait 2;", 6);
        leanings(x, "when chair 0 ends before chair 1", new int[] {-1, 20, 18, 18});
        Check.runAll(x, "repeat 10 (ask d against 0; wait 2;);", 20);
        Check.runAll(x, "repeat 10 (ask d against 0; wait 2;);", 20);
        leanings(x, "at the least", new int[] {-20, -20, -20, 18});
        Check.runAll(x, "ask a against 0; ask d for 0; wait 1; rebut b 1; wait 1;", 5);
        leanings(x, "when chair 0 ends before chair 1", new int[] {-19, -19, -19, 16});
    }

    private static void promise49Bounds() {
        BarberParliament x = new BarberParliament();
        for (int minutes : new int[] {0, 61, -1, MOST, LEAST}) {
            Check.badArgument(x, "advance(" + minutes + ")", () -> x.advance(minutes));
        }
        for (int i = 0; i < 4; i++) {
            Check.runAll(x, "repeat 20 (wait 60; wait 60;);", 40);
        }
        Check.runAll(x, "repeat 5 (wait 60;); wait 59;", 6);
        Check.due("minute", x.minute(), 9959);
        Check.badState(x, "advance(41) in 9959", () -> x.advance(41));
        Check.badState(x, "advance(60) in 9959", () -> x.advance(60));
        Check.badArgument(x, "advance(61) in 9959", () -> x.advance(61));
        Check.due("a script beyond the last minute", Check.run(x, "wait 41; wait 1;"), 0);
        Check.due("a script up to the last minute", Check.run(x, "wait 39; repeat 5 (wait 1;); propose ada 1;"), 2);
        Check.due("minute", x.minute(), 9999);
        x.undo();
        Check.due("advance(40) in 9959", x.advance(40), 0);
        Check.badState(x, "advance(1) in 9999", () -> x.advance(1));
        Check.badArgument(x, "advance(0) in 9999", () -> x.advance(0));
        Check.badArgument(x, "advance(61) in 9999", () -> x.advance(61));
    }

    private static void promise50() {
        BarberParliament x = new BarberParliament();
        Check.noSuch(x, "vote(0)", () -> x.vote(0) ? 1 : 0);
        x.propose(0, 8);
        Check.noSuch(x, "vote(-1)", () -> x.vote(-1) ? 1 : 0);
        Check.noSuch(x, "vote(1)", () -> x.vote(1) ? 1 : 0);
        Check.badState(x, "vote when it is too dry", () -> x.vote(0) ? 1 : 0);
        Check.runAll(x, "ask ben for 0; ask eli for 0; wait 4; ask dov for 0; ask cai against 0; wait 1;", 6);
        Check.badState(x, "vote when it has dried", () -> x.vote(0) ? 1 : 0);
        Check.runAll(x, "wait 3; ask ben for 0; wait 1;", 3);
        Check.due("lather", x.lather(0), 3);
        Check.badState(x, "vote while a speech is running", () -> x.vote(0) ? 1 : 0);
        Check.runAll(x, "wait 3; propose ada 1; ask ada for 0; ask ben for 1; ask cai for 0;", 5);
        int undone = x.undoCount();
        Check.yes("vote", x.vote(0));
        Check.due("undoCount", x.undoCount(), undone + 1);
        Check.due("motionState", x.motionState(0), BarberParliament.PASSED);
        x.writeRequests();
        Check.due("the requests that are left", Check.output(x), "ben+1");
        Check.badState(x, "vote on a decided motion", () -> x.vote(0) ? 1 : 0);
        BarberParliament y = Check.house("house 1 0 1 0 2 0 2; member a 1 5 9; member b 1 0 9;");
        y.propose(0, 5);
        Check.badState(y, "vote without a quorum", () -> y.vote(0) ? 1 : 0);
        y.propose(0, 6);
        Check.no("vote of equal weights", y.vote(1));
        Check.due("motionState", y.motionState(1), BarberParliament.REJECTED);
    }

    private static void promise50Tips() {
        BarberParliament x = Check.house("house 1 0 1 0 2 0 0; member a 5 5 1; member b 1 5 0; member c 3 20 2; member d 9 0 4;");
        Check.runAll(x, "propose a 5; propose a 5;", 2);
        Check.yes("vote", x.vote(0));
        people(x, "1 purses 0 0 2 4 sharpness 4 4 4 5");
        Check.yes("vote", x.vote(1));
        people(x, "1 purses 0 0 2 4 sharpness 3 3 3 5");
        x.propose(0, 10);
        Check.no("vote", x.vote(2));
        people(x, "3 purses 0 0 1 3 sharpness 3 3 2 4");
        Check.runAll(x, "propose d 10; propose d 10; vote 3; vote 4;", 4);
        people(x, "6 purses 0 0 0 1 sharpness 3 3 0 2");
        Check.runAll(x, "propose d 10; vote 5;", 2);
        people(x, "7 purses 0 0 0 0 sharpness 3 3 0 1");
    }

    private static void people(BarberParliament x, String due) {
        StringBuilder text = new StringBuilder();
        text.append(x.tips()).append(" purses");
        for (int member = 0; member < x.memberCount(); member++) {
            text.append(' ').append(x.purse(member));
        }
        text.append(" sharpness");
        for (int member = 0; member < x.memberCount(); member++) {
            text.append(' ').append(x.sharpness(member));
        }
        Check.due("tips, purses and razors", text.toString(), due);
    }

    private static void promise51() {
        BarberParliament x = new BarberParliament();
        Check.noSuch(x, "withdraw(0)", () -> x.withdraw(0));
        Check.runAll(x, "propose ada 8; propose ben 9; propose ben 9;", 3);
        Check.noSuch(x, "withdraw(3)", () -> x.withdraw(3));
        Check.noSuch(x, "withdraw(-1)", () -> x.withdraw(-1));
        Check.runAll(x, "ask cai for 1; ask dov for 0; ask ben against 1; ask ada for 2; ask eli for 1;", 5);
        Check.due("withdraw", x.withdraw(1), 3);
        Check.due("motionState", x.motionState(1), BarberParliament.WITHDRAWN);
        Check.due("undoCount", x.undoCount(), 3);
        x.writeRequests();
        Check.due("the requests that are left", Check.output(x), "dov+0,ada+2");
        Check.badState(x, "withdraw of a withdrawn motion", () -> x.withdraw(1));
        Check.runAll(x, "wait 1; ask cai for 0;", 2);
        Check.badState(x, "withdraw while a speech is running", () -> x.withdraw(0));
        Check.badState(x, "withdraw while a speech is running in the last chair", () -> x.withdraw(2));
        x.advance(3);
        Check.due("withdraw after the speech, without requests", x.withdraw(2), 0);
        Check.due("voteCount", x.voteCount(), 0);
        x.advance(3);
        Check.runAll(x, "ask ben for 0; ask eli for 0; wait 4; vote 0;", 4);
        Check.badState(x, "withdraw of a decided motion", () -> x.withdraw(0));
    }

    private static void promise52() {
        BarberParliament x = Check.house("house 1 0 1 0 2 0 0; member a 9 5 4; member b 1 5 2; member c 1 5 1; member d 1 0 9;");
        for (int member : new int[] {-1, 4, MOST, LEAST}) {
            Check.noSuch(x, "sharpen(" + member + ")", () -> x.sharpen(member));
        }
        Check.badState(x, "sharpen of a sharp razor", () -> x.sharpen(0));
        Check.runAll(x, "repeat 3 (propose d 20;);", 3);
        x.vote(0);
        Check.due("purse after the tip", x.purse(0), 3);
        Check.due("sharpen", x.sharpen(0), 1);
        Check.due("sharpness", x.sharpness(0), 5);
        Check.due("undoCount", x.undoCount(), 3);
        Check.badState(x, "sharpen of a sharp razor", () -> x.sharpen(0));
        Check.badState(x, "sharpen for one coin", () -> x.sharpen(1));
        Check.badState(x, "sharpen for no coin", () -> x.sharpen(2));
        x.vote(1);
        x.vote(2);
        Check.due("sharpness", x.sharpness(3), 2);
        Check.due("sharpen a razor of 2", x.sharpen(3), 4);
        Check.due("sharpness", x.sharpness(3), 5);
        BarberParliament y = Check.house("house 1 0 1 0 2 0 0; member a 9 5 2; member b 1 20 9;");
        Check.runAll(y, "propose b 20; vote 0;", 2);
        Check.due("purse after the tip", y.purse(0), 1);
        Check.badState(y, "sharpen for one coin", () -> y.sharpen(0));
        BarberParliament z = Check.house("house 1 0 1 0 2 0 0; member a 1 5 2; member b 9 20 9;");
        Check.runAll(z, "propose a 5; vote 0;", 2);
        Check.due("sharpen for exactly two coins", z.sharpen(0), 0);
    }

    private static void promise53() {
        BarberParliament x = new BarberParliament();
        for (int ranking : new int[] {-1, 4, MOST, LEAST}) {
            Check.noSuch(x, "setRanking(" + ranking + ")", () -> x.setRanking(ranking));
        }
        int[] rankings = {3, 0, 2, 2, 1};
        int previous = 0;
        for (int i = 0; i < rankings.length; i++) {
            Check.due("setRanking", x.setRanking(rankings[i]), previous);
            Check.due("ranking", x.ranking(), rankings[i]);
            Check.due("undoCount, the same ranking too", x.undoCount(), i + 1);
            previous = rankings[i];
        }
    }
}
