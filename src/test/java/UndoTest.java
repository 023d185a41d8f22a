/** Promises 57 to 60: undo and slots. */
public final class UndoTest {
    public static void main(String[] args) {
        promise57();
        promise58EveryChange();
        promise58Limit();
        promise58WhatStays();
        promise59();
        promise60();
        slotsAndUndo();
        everyRowIsRestored();
        Check.end();
    }

    /** A chamber with a waiting request, a running and a rebutted speech, and a motion that can be voted on. */
    private static BarberParliament busy() {
        BarberParliament x = Check.house("house 2 1 3 6 30 1 2; member ada 3 4 5; member ben 2 9 0; member cai 5 15 9;"
            + " member dov 1 12 3; member eli 4 6 1;");
        Check.runAll(x, "propose ada 8; propose ben 6; propose ben 6; ask ada for 1; wait 4; vote 1;", 6);
        Check.runAll(x, "ask dov for 2; wait 4; ask cai against 0; ask ben for 0; wait 2; ask eli for 0;", 6);
        return x;
    }

    private static void promise57() {
        BarberParliament x = new BarberParliament();
        Check.due("undoCount", x.undoCount(), 0);
        for (int change = 1; change <= 20; change++) {
            x.setRanking(change % 4);
            Check.due("undoCount", x.undoCount(), Math.min(change, 8));
        }
        x.minute();
        x.append('x' << 24, 0, 0, 0, 0);
        x.truncate(0);
        x.writeChairs();
        x.save(0);
        x.minutesUntilSpeech(0);
        x.load();
        Check.due("undoCount after calls that are no changes", x.undoCount(), 8);
    }

    private static void promise58EveryChange() {
        undone("propose", x -> x.propose(0, 3));
        undone("request", x -> x.request(3, 0, false));
        undone("rebut", x -> x.rebut(0, 0));
        undone("advance", x -> x.advance(1));
        undone("advance to the end of speeches", x -> x.advance(30));
        undone("vote", x -> x.vote(2) ? 1 : 0);
        undone("withdraw", x -> x.withdraw(2));
        undone("sharpen", x -> x.sharpen(0));
        undone("setRanking", x -> x.setRanking(2));
        undone("runScript", x -> Check.run(x, "rebut ada 0; wait 5; propose dov 3; withdraw 2; rank contrast; sharpen ada;"));
        BarberParliament y = busy();
        y.setRanking(3);
        Check.runAll(y, "wait 6; ask dov against 0; ask ada for 0;", 3);
        String before = Check.state(y);
        y.advance(1);
        y.undo();
        Check.due("the side of the latest speech is undone", Check.state(y), before);
    }

    private static void undone(String change, java.util.function.ToIntFunction<BarberParliament> made) {
        BarberParliament x = busy();
        String before = Check.state(x);
        int count = x.undoCount();
        made.applyAsInt(x);
        Check.yes(change + " changes something", !before.equals(Check.state(x)));
        Check.due("undoCount after " + change, x.undoCount(), count + 1);
        Check.due("undo of " + change, x.undo(), count);
        Check.due("the state after the undo of " + change, Check.state(x), before);
    }

    private static void promise58Limit() {
        BarberParliament x = new BarberParliament();
        Check.badState(x, "undo() of nothing", () -> x.undo());
        for (int change = 1; change <= 12; change++) {
            x.propose(change % 5, change);
        }
        for (int left = 7; left >= 0; left--) {
            Check.due("undo", x.undo(), left);
            Check.due("the motions", x.motionCount(), 4 + left);
            Check.due("the latest motion", x.proposer(3 + left), (4 + left) % 5);
        }
        Check.badState(x, "undo() of a forgotten change", () -> x.undo());
        x.propose(1, 7);
        x.propose(1, 8);
        Check.due("undo", x.undo(), 1);
        Check.due("undo", x.undo(), 0);
        Check.due("the motions", x.motionCount(), 4);
        Check.badState(x, "undo() of nothing", () -> x.undo());
    }

    private static void promise58WhatStays() {
        BarberParliament x = busy();
        x.save(0);
        x.propose(0, 3);
        x.save(1);
        x.writeChairs();
        Check.due("a script with an error", Check.run(x, "wait 61;"), BarberParliament.NONE);
        Check.write(x, "eli");
        String output = Check.output(x);
        x.undo();
        Check.due("errorCode", x.errorCode(), BarberParliament.OUT_OF_RANGE);
        Check.due("errorPosition", x.errorPosition(), 5);
        Check.due("the text buffer", x.findMember(), 4);
        Check.due("the output", Check.output(x), output);
        x.undo();
        x.truncate(0);
        x.restore(1);
        Check.due("the slot", x.motionCount(), 4);
        x.restore(0);
        Check.due("the other slot", x.motionCount(), 3);
    }

    private static void promise59() {
        BarberParliament x = busy();
        int undone = x.undoCount();
        Check.due("save", x.save(1), 10);
        Check.due("save is no change", x.undoCount(), undone);
        String saved = Check.state(x);
        x.advance(3);
        Check.due("save", x.save(0), 13);
        int motions = x.motionCount();
        x.propose(3, 9);
        x.restore(1);
        Check.due("the state of slot 1", Check.state(x), saved);
        x.restore(0);
        Check.due("the minute of slot 0", x.minute(), 13);
        Check.due("the motions of slot 0", x.motionCount(), motions);
        x.advance(2);
        Check.due("save in a filled slot", x.save(1), 15);
        x.advance(1);
        Check.due("the new state of slot 1", x.restore(1), 15);
        BarberParliament y = busy();
        for (int slot : new int[] {-1, 2, 8, Integer.MAX_VALUE, Integer.MIN_VALUE}) {
            Check.noSuch(y, "save(" + slot + ")", () -> y.save(slot));
            Check.noSuch(y, "restore(" + slot + ")", () -> y.restore(slot));
        }
    }

    private static void promise60() {
        BarberParliament x = busy();
        Check.noElement(x, "restore(0)", () -> x.restore(0));
        x.setRanking(3);
        x.save(0);
        String saved = Check.state(x);
        Check.noElement(x, "restore(1)", () -> x.restore(1));
        x.rebut(0, 0);
        x.advance(40);
        x.vote(0);
        x.sharpen(0);
        x.setRanking(1);
        Check.write(x, "eli");
        x.writeChairs();
        String output = Check.output(x);
        for (int i = 0; i < 2; i++) {
            Check.due("restore", x.restore(0), 10);
            Check.due("the state", Check.state(x), saved);
            Check.due("undoCount", x.undoCount(), 0);
            Check.badState(x, "undo() after restore", () -> x.undo());
            Check.due("the text buffer", x.findMember(), 4);
            Check.due("the output", Check.output(x), output);
            x.advance(7);
            Check.due("undoCount", x.undoCount(), 1);
        }
        Check.due("undo of a change after restore", x.undo(), 0);
        Check.due("minute", x.minute(), 10);
    }

    /** What happens between save and restore differs from what was saved in every row. */
    private static void everyRowIsRestored() {
        String setup = "house 2 2 2 20 30 0 0; member a 3 4 5; member b 2 9 4; member c 5 15 9; member d 1 12 8;";
        String first = "repeat 16 (propose a 4;); ask c for 0; ask b against 1; wait 1; rebut d 0; ask a for 2; ask d against 3;";
        String second = "repeat 16 (propose b 20;); ask a for 5; ask d for 6; wait 1; ask b for 7; ask c for 8;";
        BarberParliament x = Check.house(setup);
        Check.runAll(x, first, 22);
        String state = Check.state(x);
        String written = written(x);
        x.save(0);
        x.undo();
        Check.runAll(x, second, 21);
        Check.due("another chair's speaker", x.chairOf(0), 0);
        x.restore(0);
        Check.due("the state after restore", Check.state(x), state);
        Check.due("the output after restore", written(x), written);
    }

    private static String written(BarberParliament x) {
        x.writeChairs();
        String chairs = Check.output(x);
        x.writeRequests();
        return chairs + " | " + Check.output(x);
    }

    private static void slotsAndUndo() {
        BarberParliament x = new BarberParliament();
        x.propose(0, 8);
        x.save(0);
        x.undo();
        Check.due("motionCount after undo", x.motionCount(), 0);
        Check.due("restore of what was undone", x.restore(0), 0);
        Check.due("motionCount after restore", x.motionCount(), 1);
        x.save(0);
        Check.run(x, "wait 99");
        Check.due("a failed script leaves the slot", x.restore(0), 0);
        Check.run(x, "wait 9;");
        Check.due("a script leaves the slot", x.restore(0), 0);
        Check.write(x, "house");
        x.load();
        Check.due("a failed load leaves the slot", x.restore(0), 0);
    }
}
