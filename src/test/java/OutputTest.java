/** Promises 54 to 56: the output. */
public final class OutputTest {
    public static void main(String[] args) {
        promise54();
        promise55();
        promise56();
        longest();
        Check.end();
    }

    private static void chairs(BarberParliament x, String due) {
        Check.due("writeChairs", x.writeChairs(), due.length());
        Check.due("the chairs", Check.output(x), due);
    }

    private static void requests(BarberParliament x, String due) {
        Check.due("writeRequests", x.writeRequests(), due.length());
        Check.due("the requests", Check.output(x), due);
    }

    private static void promise54() {
        BarberParliament x = new BarberParliament();
        chairs(x, ". .");
        Check.runAll(x, "propose ada 8; ask cai against 0; wait 1;", 3);
        chairs(x, "cai-0:3 .");
        Check.runAll(x, "ask ben for 0; wait 1; rebut ada 0;", 3);
        chairs(x, "cai-0!:2 ben+0:3");
        Check.runAll(x, "wait 2;", 1);
        chairs(x, ". ben+0:1");
        chairs(Check.house("house 1 0 1 0 2 0 0; member a 1 0 0;"), ".");
        chairs(Check.house("house 4 0 1 0 2 0 0; member a 1 0 0;"), ". . . .");
        Check.due("no change", x.undoCount(), 3);
    }

    private static void promise55() {
        BarberParliament x = new BarberParliament();
        requests(x, "");
        Check.runAll(x, "propose ada 8; repeat 11 (propose ada 1;); ask cai against 0;", 13);
        requests(x, "cai-0");
        Check.runAll(x, "ask ada for 11; ask ben for 9;", 2);
        requests(x, "cai-0,ada+11,ben+9");
        Check.runAll(x, "rank heaviest; withdraw 11;", 2);
        requests(x, "cai-0,ben+9");
        Check.runAll(x, "wait 1;", 1);
        requests(x, "");
        Check.due("no change", x.undoCount(), 4);
    }

    private static void promise56() {
        BarberParliament x = new BarberParliament();
        Check.due("outputByte of an empty output", x.outputByte(0), BarberParliament.NONE);
        Check.due("outputByte(-1)", x.outputByte(-1), BarberParliament.NONE);
        x.writeChairs();
        Check.due("outputByte(0)", x.outputByte(0), 46);
        Check.due("outputByte(1)", x.outputByte(1), 32);
        Check.due("outputByte(2)", x.outputByte(2), 46);
        Check.due("outputByte(3)", x.outputByte(3), BarberParliament.NONE);
        Check.due("outputByte(-1)", x.outputByte(-1), BarberParliament.NONE);
        Check.due("outputByte(least)", x.outputByte(Integer.MIN_VALUE), BarberParliament.NONE);
        Check.due("outputByte(most)", x.outputByte(Integer.MAX_VALUE), BarberParliament.NONE);
        x.writeRequests();
        Check.due("the output is replaced", x.outputByte(0), BarberParliament.NONE);
        Check.runAll(x, "propose ada 8; ask cai against 0; ask eli for 0;", 3);
        Check.due("other calls leave the output", x.outputByte(0), BarberParliament.NONE);
        x.writeRequests();
        int[] due = {99, 97, 105, 45, 48, 44, 101, 108, 105, 43, 48, -1};
        for (int i = 0; i < due.length; i++) {
            Check.due("outputByte(" + i + ")", x.outputByte(i), due[i]);
        }
        x.advance(1);
        Check.due("the output stays when minutes pass", x.outputByte(0), 99);
        Check.run(x, "wait 0;");
        x.load();
        Check.due("the output stays when a text is read", x.outputByte(0), 99);
        x.rebut(0, 0);
        x.writeChairs();
        Check.due("a colon", x.outputByte(6), 58);
        Check.due("an exclamation mark", x.outputByte(5), 33);
    }

    private static void longest() {
        StringBuilder setup = new StringBuilder("house 4 5 20 0 30 0 0;");
        StringBuilder speeches = new StringBuilder();
        StringBuilder list = new StringBuilder();
        for (char name = 'a'; name <= 'l'; name++) {
            setup.append("member zzzzz").append(name).append(name < 'k' ? " 1 0 0;" : " 1 20 0;");
            speeches.append(name < 'e' ? " zzzzz" + name + "+15!:20" : "");
            list.append(name < 'e' ? "" : ",zzzzz" + name + "+15");
        }
        BarberParliament x = Check.house(setup.toString());
        Check.runAll(x, "repeat 16 (propose zzzzza 0;);", 16);
        for (int member = 0; member < 12; member++) {
            x.request(member, 15, true);
        }
        x.advance(1);
        for (int chair = 0; chair < 4; chair++) {
            Check.due("rebut", x.rebut(11, chair), 4 - chair);
        }
        chairs(x, speeches.substring(1));
        requests(x, list.substring(1));
    }
}
