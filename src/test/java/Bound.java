import java.math.BigInteger;

/** What the tests of boundary cases share: houses, and texts in which a bar shows where the error is due. */
final class Bound {
    static final int NONE = BarberParliament.NONE;
    static final int SYNTAX = BarberParliament.SYNTAX;
    static final int RANGE = BarberParliament.OUT_OF_RANGE;
    static final int NAME = BarberParliament.WRONG_NAME;
    static final int MANY = BarberParliament.TOO_MANY;
    static final int MOST = Integer.MAX_VALUE;
    static final int LEAST = Integer.MIN_VALUE;

    static final String HEAD = "house 1 0 1 0 2 0 0;";

    private static final int[] WIDTHS = {7, 8, 15, 16, 31, 32, 63, 64, 128};

    private Bound() {
    }

    /** Members a, b, c and so on, all with the same numbers. */
    static String members(int count, String numbers) {
        StringBuilder text = new StringBuilder();
        for (int i = 0; i < count; i++) {
            text.append("member ").append((char) ('a' + i)).append(' ').append(numbers).append(';');
        }
        return text.toString();
    }

    static BarberParliament crowd(String head, int count) {
        return Check.house(head + members(count, "1 5 9"));
    }

    static BarberParliament sixteenMotions() {
        BarberParliament x = new BarberParliament();
        Check.runAll(x, "repeat 16 (propose ada 8;);", 16);
        return x;
    }

    /** In minute 9999, the last one. */
    static void passToTheEnd(BarberParliament x) {
        for (int i = 0; i < 4; i++) {
            Check.runAll(x, "repeat 20 (wait 60; wait 60;);", 40);
        }
        Check.runAll(x, "repeat 6 (wait 60;); wait 39;", 7);
    }

    static int length(BarberParliament x) {
        return x.append(0, 0, 0, 0, 0);
    }

    /** The text must be refused where the bar stands, with the buffer emptied and the chamber as it was. */
    static void setupError(int code, String marked) {
        BarberParliament x = new BarberParliament();
        x.propose(1, 7);
        String before = Check.state(x);
        Check.write(x, marked.replace("|", ""));
        Check.due("load of " + marked, x.load(), code);
        errorStands(x, code, marked, before);
    }

    static void scriptError(int code, String marked) {
        BarberParliament x = new BarberParliament();
        x.propose(1, 7);
        String before = Check.state(x);
        Check.write(x, marked.replace("|", ""));
        Check.due("runScript of " + marked, x.runScript(), NONE);
        errorStands(x, code, marked, before);
    }

    private static void errorStands(BarberParliament x, int code, String marked, String before) {
        Check.due("errorCode after " + marked, x.errorCode(), code);
        Check.due("errorPosition after " + marked, x.errorPosition(), marked.indexOf('|'));
        Check.due("the buffer after " + marked, length(x), 0);
        Check.due("undoCount after " + marked, x.undoCount(), 1);
        Check.due("the state after " + marked, Check.state(x), before);
    }

    static BarberParliament script(String text, int executed) {
        BarberParliament x = new BarberParliament();
        Check.due("runScript of " + text, Check.run(x, text), executed);
        Check.due("errorCode after " + text, x.errorCode(), 0);
        Check.due("errorPosition after " + text, x.errorPosition(), NONE);
        return x;
    }

    /** Numbers that a whole number of 7 to 128 bits takes for the allowed one, or for one beside it. */
    static String[] wrapped(int allowed) {
        String[] numbers = new String[WIDTHS.length];
        for (int i = 0; i < WIDTHS.length; i++) {
            numbers[i] = BigInteger.ONE.shiftLeft(WIDTHS[i]).add(BigInteger.valueOf(allowed)).toString();
        }
        return numbers;
    }

    /** The members' leanings to a motion. */
    static String leanings(BarberParliament x, int motion) {
        StringBuilder text = new StringBuilder();
        for (int member = 0; member < x.memberCount(); member++) {
            text.append(member == 0 ? "" : " ").append(x.leaning(member, motion));
        }
        return text.toString();
    }

    static String requests(BarberParliament x) {
        x.writeRequests();
        return Check.output(x);
    }

    static String chairs(BarberParliament x) {
        x.writeChairs();
        return Check.output(x);
    }
}
