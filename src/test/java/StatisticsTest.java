/** Promises 37 to 42: statistics. */
public final class StatisticsTest {
    public static void main(String[] args) {
        promise37();
        promise38();
        promise39();
        promise40();
        promise41();
        promise42();
        Check.end();
    }

    private static void promise37() {
        BarberParliament x = Check.house("house 1 0 1 0 2 0 0; member a 3 5 1; member b 2 5 0; member c 4 20 9; member d 1 0 9;");
        Check.due("tips", x.tips(), 0);
        Check.runAll(x, "propose a 5; vote 0;", 2);
        Check.due("tips of those who won and have a coin", x.tips(), 1);
        Check.due("purse of the winner", x.purse(0), 0);
        Check.due("purse of a winner without coins", x.purse(1), 0);
        Check.due("purse of the loser", x.purse(2), 9);
        Check.due("purse of the undecided", x.purse(3), 9);
        Check.runAll(x, "propose a 20; vote 1;", 2);
        Check.due("tips after a rejected motion", x.tips(), 2);
        Check.due("purse of those against", x.purse(3), 8);
        Check.due("purse of the one in favour", x.purse(2), 9);
        x.sharpen(2);
        Check.due("sharpening is no tip", x.tips(), 2);
        x.undo();
        x.undo();
        Check.due("tips after undo", x.tips(), 1);
    }

    private static void promise38() {
        BarberParliament x = Check.house("house 1 0 1 0 2 0 0; member a 3 5 1;");
        Check.due("voteCount", x.voteCount(), 0);
        Check.runAll(x, "repeat 3 (propose a 5;); vote 0; propose a 20; vote 3; withdraw 1;", 7);
        Check.due("voteCount of passed and rejected motions", x.voteCount(), 2);
        Check.badState(x, "vote(1)", () -> x.vote(1) ? 1 : 0);
        x.vote(2);
        Check.due("voteCount", x.voteCount(), 3);
    }

    private static void promise39() {
        BarberParliament x = new BarberParliament();
        Check.due("rebuttalCount", x.rebuttalCount(), 0);
        Check.runAll(x, "propose ada 8; ask cai for 0; ask ben against 0; wait 1; rebut ada 1;", 5);
        Check.due("rebuttalCount", x.rebuttalCount(), 1);
        Check.badState(x, "rebut(4, 1)", () -> x.rebut(4, 1));
        Check.runAll(x, "wait 3; ask cai against 0; wait 1; rebut eli 0;", 4);
        Check.due("rebuttalCount", x.rebuttalCount(), 2);
    }

    private static void promise40() {
        BarberParliament x = Check.house("house 1 0 1 0 2 0 0; member a 3 5 1; member b 3 6 1; member c 3 8 1;");
        Check.runAll(x, "propose a 5; propose a 20; propose a 12;", 3);
        mean(x, 0, 11.0 / 3.0);
        mean(x, 1, -26.0 / 3.0);
        mean(x, 2, -2.0 / 3.0);
        BarberParliament y = Check.house("house 1 0 1 0 2 0 0; member a 3 5 1; member b 3 15 1;");
        y.propose(0, 10);
        mean(y, 0, 0.0);
        BarberParliament z = Check.house("house 1 0 1 0 2 0 0; member a 1 5 1;");
        z.propose(0, 6);
        mean(z, 0, 4.0);
        Check.due("the bits of the whole weight of 1", Float.floatToRawIntBits(z.weightShare(0)), Float.floatToRawIntBits(1f));
    }

    private static void mean(BarberParliament x, int motion, double due) {
        Check.due("the bits of meanLeaning", Double.doubleToRawLongBits(x.meanLeaning(motion)), Double.doubleToRawLongBits(due));
    }

    private static void promise41() {
        BarberParliament x = new BarberParliament();
        float[] shares = {3f / 15f, 2f / 15f, 5f / 15f, 1f / 15f, 4f / 15f};
        for (int member = 0; member < shares.length; member++) {
            Check.due("the bits of weightShare", Float.floatToRawIntBits(x.weightShare(member)), Float.floatToRawIntBits(shares[member]));
        }
        Check.noSuch(x, "weightShare(5)", () -> (long) x.weightShare(5));
        Check.noSuch(x, "weightShare(-1)", () -> (long) x.weightShare(-1));
        BarberParliament y = Check.house("house 1 0 1 0 2 0 0; member a 3 5 1;");
        Check.due("the bits of weightShare", Float.floatToRawIntBits(y.weightShare(0)), Float.floatToRawIntBits(1f));
    }

    private static void promise42() {
        BarberParliament x = new BarberParliament();
        String[] scripts = {"propose ada 8; propose ada 4; ask cai for 0; ask ben against 0; ask dov for 1;", "wait 1;", "rebut ada 1;",
            "wait 3; ask cai for 0;", "wait 4; vote 0;", "sharpen cai; sharpen ada;", "ask ada for 1; withdraw 1;", "wait 9;"};
        for (String script : scripts) {
            Check.run(x, script);
            Check.due("contradictions after " + script, x.contradictions(), 0);
        }
        Check.due("a vote was held", x.voteCount(), 1);
        Check.due("a razor was sharpened", x.sharpness(2), 5);
        Check.due("a motion was withdrawn", x.motionState(1), BarberParliament.WITHDRAWN);
        x.undo();
        Check.due("contradictions after undo", x.contradictions(), 0);
    }
}
