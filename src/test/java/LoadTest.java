/** Promises 4, 6 and 7: setups, their errors and where these stand. */
public final class LoadTest {
    private static final String HEAD = "house 2 1 3 6 5 2 2;";
    private static final int SYNTAX = BarberParliament.SYNTAX;
    private static final int RANGE = BarberParliament.OUT_OF_RANGE;
    private static final int NAME = BarberParliament.WRONG_NAME;
    private static final int MANY = BarberParliament.TOO_MANY;

    public static void main(String[] args) {
        goodSetups();
        ranges();
        syntax();
        names();
        tooMany();
        theFirstErrorCounts();
        anErrorLeavesTheChamber();
        aNewChamberIsFresh();
        Check.end();
    }

    /** A bar in the text shows where the error is due. */
    private static void error(int code, String marked) {
        BarberParliament x = new BarberParliament();
        int position = marked.indexOf('|');
        String text = marked.substring(0, position) + marked.substring(position + 1);
        Check.write(x, text);
        Check.due("load of " + marked, x.load(), code);
        Check.due("errorCode after " + marked, x.errorCode(), code);
        Check.due("errorPosition after " + marked, x.errorPosition(), position);
        Check.due("the buffer after " + marked, x.append(0, 0, 0, 0, 0), 0);
        Check.due("the members after " + marked, x.memberCount(), 5);
    }

    private static void good(String text, int members) {
        BarberParliament x = new BarberParliament();
        x.load();
        Check.due("the error before " + text, x.errorCode(), SYNTAX);
        Check.write(x, text);
        Check.due("load of " + text, x.load(), 0);
        Check.due("errorCode after " + text, x.errorCode(), 0);
        Check.due("errorPosition after " + text, x.errorPosition(), BarberParliament.NONE);
        Check.due("the buffer after " + text, x.append(0, 0, 0, 0, 0), 0);
        Check.due("the members after " + text, x.memberCount(), members);
    }

    private static String members(int count) {
        StringBuilder text = new StringBuilder(HEAD);
        for (int i = 0; i < count; i++) {
            text.append("member ").append((char) ('a' + i)).append(" 1 2 3;");
        }
        return text.toString();
    }

    private static void goodSetups() {
        good(HEAD + "member a 1 0 0;", 1);
        good("house 1 0 1 0 2 0 0;member a 1 0 0;", 1);
        good("house 4 5 20 20 30 9 12;member zzzzzz 9 20 99;", 1);
        good("\n house\n2 1 3 6 5 2 2 ; \nmember a 1 0 0 ; \n", 1);
        good("house2 1 3 6 5 2 2;member a1 0 0;member b1 0 0;", 2);
        good("house 0002 01 003 6 5 2 00000000000000000000002;member a 01 00 099;", 1);
        good(HEAD + "member member 1 2 3;member house 1 2 3;", 2);
        good(members(12), 12);
        BarberParliament x = Check.house("house 3 4 3 6 5 2 2; member bo 7 8 9; member al 1 2 3;");
        Check.due("chairCount", x.chairCount(), 3);
        Check.due("freeMirrors", x.freeMirrors(), 4);
        Check.due("the first member", Check.find(x, "bo"), 0);
        Check.due("the second member", Check.find(x, "al"), 1);
        Check.due("a member of the old chamber", Check.find(x, "ada"), BarberParliament.NONE);
        Check.due("weight", x.weight(0), 7);
        Check.due("purse", x.purse(0), 9);
        Check.due("weight", x.weight(1), 1);
        Check.due("purse", x.purse(1), 3);
        x.propose(1, 8);
        Check.due("the position of the first", x.leaning(0, 0), 5);
        Check.due("the position of the second", x.leaning(1, 0), -1);
    }

    private static void ranges() {
        error(RANGE, "house |0 1 3 6 5 2 2;member a 1 0 0;");
        error(RANGE, "house |5 1 3 6 5 2 2;member a 1 0 0;");
        error(RANGE, "house 2 |6 3 6 5 2 2;member a 1 0 0;");
        error(RANGE, "house 2 1 |0 6 5 2 2;member a 1 0 0;");
        error(RANGE, "house 2 1 |21 6 5 2 2;member a 1 0 0;");
        error(RANGE, "house 2 1 3 |21 5 2 2;member a 1 0 0;");
        error(RANGE, "house 2 1 3 6 |1 2 2;member a 1 0 0;");
        error(RANGE, "house 2 1 3 6 |31 2 2;member a 1 0 0;");
        error(RANGE, "house 2 1 3 6 5 |10 2;member a 1 0 0;");
        error(RANGE, "house 2 1 3 6 5 2 |13;member a 1 0 0;");
        error(RANGE, HEAD + "member a |0 0 0;");
        error(RANGE, HEAD + "member a |10 0 0;");
        error(RANGE, HEAD + "member a 1 |21 0;");
        error(RANGE, HEAD + "member a 1 0 |100;");
        error(RANGE, "house |4294967297 1 3 6 5 2 2;member a 1 0 0;");
        error(RANGE, "house |18446744073709551617 1 3 6 5 2 2;member a 1 0 0;");
        error(RANGE, "house |99999999999999999999999999999999999999999 1 3 6 5 2 2;member a 1 0 0;");
    }

    private static void syntax() {
        error(SYNTAX, "|");
        error(SYNTAX, "  \n|");
        error(SYNTAX, "|5");
        error(SYNTAX, "|hous 2");
        error(SYNTAX, "|houses 2");
        error(SYNTAX, "|home ");
        error(SYNTAX, "|mouse 2");
        error(SYNTAX, " |House 2");
        error(SYNTAX, "house|");
        error(SYNTAX, "house  |");
        error(SYNTAX, "house |x 1 3 6 5 2 2;");
        error(SYNTAX, "house |; 1 3 6 5 2 2;");
        error(SYNTAX, "house 2 1 3 6 5 2|;");
        error(SYNTAX, "house 2 1 3 6 5 2 2 |2;");
        error(SYNTAX, "house |-2 1 3 6 5 2 2;");
        error(SYNTAX, "house 2 1 3 6 5 2 2|(member");
        error(SYNTAX, HEAD + "|");
        error(SYNTAX, HEAD + "|;");
        error(SYNTAX, HEAD + "|membe a 1 2 3;");
        error(SYNTAX, HEAD + "|members a 1 2 3;");
        error(SYNTAX, HEAD + "member |1 1 2 3;");
        error(SYNTAX, HEAD + "member |;");
        error(SYNTAX, HEAD + "member |A 1 2 3;");
        error(SYNTAX, HEAD + "member a |b 1 2 3;");
        error(SYNTAX, HEAD + "member a 1 2 |;");
        error(SYNTAX, HEAD + "member a 1 2 3|");
        error(SYNTAX, HEAD + "member a 1 2 3 |4;");
        error(SYNTAX, HEAD + "member a 1 2 3;|;");
        error(SYNTAX, HEAD + "member a 1 2 3;|x");
        error(SYNTAX, HEAD + "member a 1 2 3; |house");
        error(SYNTAX, HEAD + "member a 1 2 3;|4");
        error(SYNTAX, HEAD + "member a 1 2 3;|)");
        error(SYNTAX, HEAD + "member a 1 2 3; |\t");
        error(SYNTAX, HEAD + "member a 1 2 3; |\r\n");
        error(SYNTAX, "house |\u00b2 1 3 6 5 2 2;");
        error(SYNTAX, "|\u0001");
        error(SYNTAX, "house |/ 1");
        error(SYNTAX, "house 2|: 1");
        error(SYNTAX, "house|` 1");
        error(SYNTAX, "house|{ 1");
    }

    private static void names() {
        error(RANGE, HEAD + "member |abcdefg 1 2 3;");
        error(RANGE, HEAD + "member |abcdefghijklmnopqrstuvwxyz 1 2 3;");
        error(NAME, HEAD + "member ada 1 2 3;member |ada 1 2 3;");
        error(NAME, HEAD + "member a 1 2 3;member b 1 2 3;member |a 1 2 3;");
        error(RANGE, HEAD + "member abcdef 1 2 3;member |abcdefg 1 2 3;");
        good(HEAD + "member ada 1 2 3;member adam 1 2 3;member ad 1 2 3;", 3);
        good(HEAD + "member cai 1 2 3;member dov 1 2 3;", 2);
    }

    private static void tooMany() {
        error(MANY, members(12) + "|member");
        error(MANY, members(12) + " |member a 1 2 3;");
        error(MANY, members(12) + "|member m 1 2 3;member n 1 2 3;");
        error(SYNTAX, members(12) + "|membe");
        error(SYNTAX, members(12) + "|;");
        good(members(11), 11);
    }

    private static void theFirstErrorCounts() {
        error(RANGE, "house |9 x 3 6 5 2 2;");
        error(SYNTAX, "house 2 |x 99 6 5 2 2;");
        error(NAME, HEAD + "member a 1 2 3;member |a 99 x;");
        error(RANGE, HEAD + "member a |99 x;");
    }

    private static void anErrorLeavesTheChamber() {
        BarberParliament x = new BarberParliament();
        Check.runAll(x, "propose ada 8; ask cai for 0; ask ben for 0; wait 2; rank contrast;", 5);
        x.save(1);
        x.setRanking(1);
        x.writeChairs();
        String before = Check.state(x);
        String output = Check.output(x);
        Check.write(x, "house 4 5 20 20 30 9 12;member zed 9 20 99;member zed 9 20 99;");
        Check.due("load with an error at the end", x.load(), NAME);
        Check.due("the state after it", Check.state(x), before);
        Check.due("the output after it", Check.output(x), output);
        Check.due("undoCount after it", x.undoCount(), 2);
        Check.due("a name of the draft", Check.find(x, "zed"), BarberParliament.NONE);
        Check.due("restore(1) after it", x.restore(1), 2);
        Check.due("ranking", x.ranking(), BarberParliament.CONTRAST);
    }

    private static void aNewChamberIsFresh() {
        String setup = "house 2 2 1 20 30 1 1; member a 1 5 5; member b 1 5 5; member c 1 20 5; member d 1 20 5;";
        BarberParliament x = Check.house(setup);
        Check.runAll(x, "propose a 5; ask a for 0; ask c for 0; wait 1; rebut d 0; wait 1; vote 0; sharpen a; rank heaviest;", 9);
        Check.runAll(x, "propose b 5; ask b for 1; ask a against 1; wait 1; rebut d 0; ask c for 1;", 6);
        Check.due("rebuttalCount before load", x.rebuttalCount(), 2);
        Check.due("freeMirrors before load", x.freeMirrors(), 1);
        x.save(0);
        x.save(1);
        x.writeRequests();
        String output = Check.output(x);
        Check.write(x, setup);
        Check.due("load", x.load(), 0);
        BarberParliament y = Check.house(setup);
        Check.due("the state after load", Check.state(x), Check.state(y));
        Check.due("minute", x.minute(), 0);
        Check.due("motionCount", x.motionCount(), 0);
        Check.due("requestCount", x.requestCount(), 0);
        Check.due("speaker", x.speaker(0), BarberParliament.NONE);
        Check.due("tips", x.tips(), 0);
        Check.due("voteCount", x.voteCount(), 0);
        Check.due("rebuttalCount", x.rebuttalCount(), 0);
        Check.due("ranking", x.ranking(), BarberParliament.ARRIVAL);
        Check.due("contradictions", x.contradictions(), 0);
        Check.due("freeMirrors", x.freeMirrors(), 2);
        Check.due("undoCount", x.undoCount(), 0);
        Check.due("the output stays", Check.output(x), output);
        Check.badState(x, "undo() after load", () -> x.undo());
        Check.noElement(x, "restore(0) after load", () -> x.restore(0));
        Check.noElement(x, "restore(1) after load", () -> x.restore(1));
        String script = "propose d 7; propose d 7; rank contrast; ask a for 0; ask b against 0; ask c for 1;";
        Check.runAll(x, script, 6);
        Check.runAll(y, script, 6);
        Check.due("the state after a script", Check.state(x), Check.state(y));
        Check.due("lather of a new motion", x.lather(0), 0);
        Check.due("no speech has started about the new motions", x.firstBy(3), 0);
    }
}
