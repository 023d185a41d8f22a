/** Promises 5, 6 and 7: scripts, their errors and where these stand, and how they are executed. */
public final class ScriptTest {
    private static final int SYNTAX = BarberParliament.SYNTAX;
    private static final int RANGE = BarberParliament.OUT_OF_RANGE;
    private static final int NAME = BarberParliament.WRONG_NAME;
    private static final int MANY = BarberParliament.TOO_MANY;

    public static void main(String[] args) {
        everyCommandIsItsMethod();
        goodTexts();
        ranges();
        syntax();
        names();
        tooManyCommands();
        tooManyBrackets();
        theFirstErrorCounts();
        endsBeforeARefusedCommand();
        endsAfterFortyCommands();
        repeats();
        isOneChange();
        keywordsAsNames();
        Check.end();
    }

    /** A bar in the text shows where the error is due. */
    private static void error(int code, String marked) {
        BarberParliament x = new BarberParliament();
        x.propose(0, 8);
        String before = Check.state(x);
        int position = marked.indexOf('|');
        Check.write(x, marked.substring(0, position) + marked.substring(position + 1));
        Check.due("runScript of " + marked, x.runScript(), BarberParliament.NONE);
        Check.due("errorCode after " + marked, x.errorCode(), code);
        Check.due("errorPosition after " + marked, x.errorPosition(), position);
        Check.due("the buffer after " + marked, x.append(0, 0, 0, 0, 0), 0);
        Check.due("the state after " + marked, Check.state(x), before);
        Check.due("undoCount after " + marked, x.undoCount(), 1);
    }

    private static BarberParliament good(String text, int executed) {
        BarberParliament x = new BarberParliament();
        x.load();
        Check.due("the error before " + text, x.errorCode(), SYNTAX);
        Check.due("runScript of " + text, Check.run(x, text), executed);
        Check.due("errorCode after " + text, x.errorCode(), 0);
        Check.due("errorPosition after " + text, x.errorPosition(), BarberParliament.NONE);
        Check.due("the buffer after " + text, x.append(0, 0, 0, 0, 0), 0);
        Check.due("undoCount after " + text, x.undoCount(), 1);
        return x;
    }

    private static void everyCommandIsItsMethod() {
        BarberParliament x = new BarberParliament();
        BarberParliament y = new BarberParliament();
        Check.runAll(x, "propose dov 8;", 1);
        y.propose(3, 8);
        same(x, y, "propose");
        Check.runAll(x, "ask cai against 0; ask ben for 0;", 2);
        y.request(2, 0, false);
        y.request(1, 0, true);
        same(x, y, "ask");
        Check.runAll(x, "wait 2;", 1);
        y.advance(2);
        same(x, y, "wait");
        Check.runAll(x, "rebut ada 0;", 1);
        y.rebut(0, 0);
        same(x, y, "rebut");
        Check.runAll(x, "wait 2; vote 0;", 2);
        y.advance(2);
        y.vote(0);
        same(x, y, "vote");
        Check.runAll(x, "sharpen ada;", 1);
        y.sharpen(0);
        same(x, y, "sharpen");
        Check.runAll(x, "propose eli 20; withdraw 1;", 2);
        y.propose(4, 20);
        y.withdraw(1);
        same(x, y, "withdraw");
        // Of the 512 calls of an object few are left here.
        String[] rankings = {"heaviest", "quietest", "contrast", "arrival"};
        for (int i = 0; i < rankings.length; i++) {
            Check.runAll(x, "rank " + rankings[i] + ";", 1);
            y.setRanking((i + 1) % 4);
            Check.due("ranking after rank " + rankings[i], x.ranking(), y.ranking());
        }
    }

    private static void same(BarberParliament x, BarberParliament y, String what) {
        Check.due("the state after " + what, Check.state(x), Check.state(y));
    }

    private static void goodTexts() {
        good("", 0);
        good("  \n ", 0);
        good("wait 60;", 1);
        good("wait 1;wait 01;\nwait\n001 ; ", 3);
        good("wait1;wait2;", 2);
        good("repeat 3();", 0);
        good("repeat 0(wait 1;);", 0);
        good("repeat2(wait1;);", 2);
        good("repeat 1 ( repeat 1 ( wait 1 ; ) ; ) ;", 1);
        good("propose ada 0; propose ada 20; withdraw 0;", 3);
        good("wait 1; vote 15;", 1);
        good("withdraw 15;", 0);
        good("wait 1; ask ada for 15;", 1);
        good("wait 1; ask ada against 15;", 1);
        good("rebut ada 3;", 0);
        good("repeat 20 (wait 1;);", 20);
    }

    private static void ranges() {
        error(RANGE, "propose ada |21;");
        error(RANGE, "ask ada for |16;");
        error(RANGE, "ask ada against |16;");
        error(RANGE, "rebut ada |4;");
        error(RANGE, "wait |0;");
        error(RANGE, "wait |61;");
        error(RANGE, "vote |16;");
        error(RANGE, "withdraw |16;");
        error(RANGE, "repeat |21 ();");
        error(RANGE, "wait |4294967297;");
        error(RANGE, "wait |18446744073709551617;");
    }

    private static void syntax() {
        error(SYNTAX, "|;");
        error(SYNTAX, "|5;");
        error(SYNTAX, "|(");
        error(SYNTAX, "|)");
        error(SYNTAX, "|house 2 1 3 6 5 2 2;");
        error(SYNTAX, "|waits 1;");
        error(SYNTAX, "|wai 1;");
        error(SYNTAX, "|note 1;");
        error(SYNTAX, "wait 1; |tank heaviest;");
        error(SYNTAX, "wait|");
        error(SYNTAX, "wait |;");
        error(SYNTAX, "wait |x;");
        error(SYNTAX, "wait 1|");
        error(SYNTAX, "wait 1 |wait 1;");
        error(SYNTAX, "wait 1; wait 1\n|");
        error(SYNTAX, "wait 1;|;");
        error(SYNTAX, "wait 1; |Wait 1;");
        error(SYNTAX, "propose |5;");
        error(SYNTAX, "propose ada |ada;");
        error(SYNTAX, "propose ada|");
        error(SYNTAX, "propose |Ada 5;");
        error(SYNTAX, "ask ada |pro 0;");
        error(SYNTAX, "ask ada |fo 0;");
        error(SYNTAX, "ask ada |fort 0;");
        error(SYNTAX, "ask ada |0;");
        error(SYNTAX, "ask ada for |for;");
        error(SYNTAX, "ask ada for|;");
        error(SYNTAX, "rebut ada |x;");
        error(SYNTAX, "rebut |0 ada;");
        error(SYNTAX, "sharpen |;");
        error(SYNTAX, "sharpen ada |0;");
        error(SYNTAX, "rank |0;");
        error(SYNTAX, "rank |heavy;");
        error(SYNTAX, "rank |arrivals;");
        error(SYNTAX, "rank|;");
        error(SYNTAX, "vote |ada;");
        error(SYNTAX, "withdraw |(;");
        error(SYNTAX, "repeat |(wait 1;);");
        error(SYNTAX, "repeat 2 |wait 1;");
        error(SYNTAX, "repeat 2 |;");
        error(SYNTAX, "repeat 2 (wait 1|);");
        error(SYNTAX, "repeat 2 (wait 1;|");
        error(SYNTAX, "repeat 2 (wait 1;)|");
        error(SYNTAX, "repeat 2 (wait 1;) |wait 1;");
        error(SYNTAX, "repeat 2 (wait 1;)|);");
        error(SYNTAX, "repeat 2 (|; );");
        error(SYNTAX, "repeat 2 (|(wait 1;););");
        error(SYNTAX, "repeat 2 (|5);");
        error(SYNTAX, "wait 1; |)");
        error(SYNTAX, "wait 1|, wait 1;");
        error(SYNTAX, "wait 1;|\t");
        error(SYNTAX, "wait 1; |\u00ff");
        error(SYNTAX, "wait 1|.5;");
    }

    private static void names() {
        error(NAME, "propose |zed 5;");
        error(NAME, "ask |ad for 0;");
        error(NAME, "rebut |adam 0;");
        error(NAME, "sharpen |abcdef;");
        error(RANGE, "sharpen |abcdefg;");
        error(RANGE, "ask |adaadaada for 0;");
        error(RANGE, "rebut |adaadaadaadaadaada 0;");
        error(RANGE, "propose |aaaaada 0;");
    }

    private static String waits(int count) {
        StringBuilder text = new StringBuilder();
        for (int i = 0; i < count; i++) {
            text.append("wait 1;");
        }
        return text.toString();
    }

    private static void tooManyCommands() {
        good(waits(30), 30);
        error(MANY, waits(30) + "|wait 1;");
        error(MANY, waits(30) + " |repeat 1 ();");
        error(MANY, waits(30) + "|wait 0");
        error(SYNTAX, waits(30) + "|waits 1;");
        error(SYNTAX, waits(30) + "|;");
        error(SYNTAX, waits(29) + "repeat 1 (|");
        error(MANY, waits(29) + "repeat 1 (|wait 1;);");
        error(MANY, "repeat 1 (" + waits(29) + "|wait 1;);");
        error(MANY, "repeat 0 (" + waits(29) + ");|wait 1;");
        error(MANY, "repeat 0 (repeat 0 (" + waits(28) + "|wait 1;););");
        good("repeat 1 (" + waits(29) + ");", 29);
        good(waits(29) + "repeat 1 ();", 29);
    }

    private static void tooManyBrackets() {
        error(MANY, "repeat 1 (repeat 1 (repeat 1 |(");
        error(MANY, "repeat 1 (repeat 1 (wait 1; repeat 1 |(wait 1;);););");
        error(SYNTAX, "repeat 1 (repeat 1 (repeat 1 |wait");
        error(SYNTAX, "repeat 1 (repeat 1 (repeat 1|");
        error(RANGE, "repeat 1 (repeat 1 (repeat |21 (");
        error(MANY, "repeat 1 (repeat 1 (wait 1;); repeat 1 (repeat 1 |();););");
        good("repeat 1 (repeat 1 (wait 1;); repeat 1 (wait 1;);); repeat 1 (repeat 1 (wait 1;););", 3);
    }

    private static void theFirstErrorCounts() {
        error(NAME, "ask |zed far 16;");
        error(RANGE, "wait |61; waits");
        error(SYNTAX, "ask ada |far 16; sharpen zed;");
        error(RANGE, "wait 1; wait |99; sharpen abcdefg; )");
    }

    private static void endsBeforeARefusedCommand() {
        BarberParliament x = good("propose ada 8; ask cai against 0; ask cai for 0; wait 5;", 2);
        Check.due("minute", x.minute(), 0);
        Check.due("requestCount", x.requestCount(), 1);
        Check.due("motionCount", good("propose ada 8; propose ben 8; vote 0; propose ben 8;", 2).motionCount(), 2);
        Check.due("motionCount", good("rebut ada 2; propose ada 1;", 0).motionCount(), 0);
        Check.due("motionCount", good("sharpen ada; propose ada 1;", 0).motionCount(), 0);
        Check.due("motionCount", good("withdraw 0; propose ada 1;", 0).motionCount(), 0);
        Check.due("minute", good("repeat 5 (wait 1; sharpen ada;); wait 1;", 1).minute(), 1);
        Check.due("minute", good("repeat 5 (repeat 5 (wait 1; sharpen ada;); wait 7;); wait 20;", 1).minute(), 1);
        Check.due("motions", good("repeat 20 (propose ada 1;); rank heaviest;", 16).ranking(), 0);
        Check.due("minute", good("propose ada 1; withdraw 0; ask ada for 0; wait 1;", 2).minute(), 0);
    }

    private static void endsAfterFortyCommands() {
        Check.due("minute", good("repeat 20 (repeat 20 (wait 1;););", 40).minute(), 40);
        Check.due("minute", good("repeat 20 (wait 1; wait 2;); wait 20;", 40).minute(), 60);
        Check.due("minute", good("repeat 13 (wait 1; wait 1; wait 1;); wait 5;", 40).minute(), 44);
        Check.due("minute", good("repeat 13 (wait 1; wait 1; wait 1;); repeat 0 (wait 9;);", 39).minute(), 39);
        Check.due("minute", good("repeat 20 (wait 1; wait 1;); sharpen ada;", 40).minute(), 40);
        Check.due("executed again", Check.run(good("repeat 20 (wait 1; wait 1;);", 40), "wait 1;"), 1);
    }

    private static void repeats() {
        Check.due("minute", good("repeat 3 (wait 1; repeat 4 (wait 2;); wait 3;); wait 4;", 19).minute(), 40);
        Check.due("minute", good("repeat 0 (wait 1; repeat 4 (wait 2;);); wait 5;", 1).minute(), 5);
        Check.due("minute", good("repeat 2 (repeat 0 (wait 1;); repeat 2 (); wait 5;);", 2).minute(), 10);
        BarberParliament x = good("repeat 2 (propose ada 8; rank contrast;); propose ben 3;", 5);
        Check.due("proposer", x.proposer(1), 0);
        Check.due("proposer", x.proposer(2), 1);
    }

    private static void isOneChange() {
        BarberParliament x = new BarberParliament();
        x.propose(0, 8);
        String before = Check.state(x);
        Check.runAll(x, "ask cai against 0; wait 1; rank quietest; propose ben 3;", 4);
        Check.due("undoCount after a script", x.undoCount(), 2);
        Check.due("undo", x.undo(), 1);
        Check.due("the state after undo", Check.state(x), before);
        Check.due("a script without commands", Check.run(x, ""), 0);
        Check.due("undoCount after it", x.undoCount(), 2);
        Check.due("a script that stops at once", Check.run(x, "vote 9;"), 0);
        Check.due("undoCount after it", x.undoCount(), 3);
        Check.due("a script with an error", Check.run(x, "vote 99;"), BarberParliament.NONE);
        Check.due("undoCount after it", x.undoCount(), 3);
    }

    private static void keywordsAsNames() {
        BarberParliament x = Check.house("house 1 0 1 0 2 0 0; member for 1 0 0; member vote 1 0 0; member member 1 0 0;");
        Check.runAll(x, "propose vote 0; ask for for 0; ask vote against 0; ask member for 0;", 4);
        x.writeRequests();
        Check.due("the requests", Check.output(x), "for+0,vote-0,member+0");
    }
}
