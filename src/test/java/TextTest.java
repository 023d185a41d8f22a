/** Promises 2, 3 and 9: the text buffer. */
public final class TextTest {
    public static void main(String[] args) {
        promise2OrderOfBytes();
        promise2ZerosAreLeftOut();
        promise2Limit();
        promise3();
        promise9();
        promise9LongAndOddTexts();
        Check.end();
    }

    private static int word(String four) {
        return four.charAt(0) << 24 | four.charAt(1) << 16 | four.charAt(2) << 8 | four.charAt(3);
    }

    private static void promise2OrderOfBytes() {
        BarberParliament x = new BarberParliament();
        Check.due("append of 20 bytes", x.append(word("hous"), word("e 1 "), word("2 3 "), word("4 5 "), word("6 7;")), 20);
        Check.due("append of 20 more", x.append(word(" mem"), word("ber "), word("abcd"), word("ef 1"), word(" 2 3")), 40);
        Check.due("append of one", x.append(0, 0, 0, 0, ';'), 41);
        Check.due("load of what was appended", x.load(), 0);
        Check.due("the member's name", Check.find(x, "abcdef"), 0);
    }

    private static void promise2ZerosAreLeftOut() {
        BarberParliament x = new BarberParliament();
        Check.due("append of zeros", x.append(0, 0, 0, 0, 0), 0);
        Check.due("append with zeros between", x.append('b' << 24, 'e' << 16, 0, 'n' << 8, 0), 3);
        Check.due("findMember of ben", x.findMember(), 1);
        x.truncate(0);
        Check.due("append with a zero inside a parameter", x.append('c' << 24 | 'a' << 8, 'i', 0, 0, 0), 3);
        Check.due("findMember of cai", x.findMember(), 2);
        x.truncate(0);
        Check.due("append of bytes above 127", x.append(-1, 0x80008000, 0, 0, 0), 6);
    }

    private static void promise2Limit() {
        BarberParliament x = new BarberParliament();
        for (int i = 1; i <= 34; i++) {
            Check.due("append", x.append(-1, -1, -1, -1, -1), 20 * i);
        }
        Check.due("append up to 699", x.append(-1, -1, -1, -1, 0xffffff), 699);
        Check.badState(x, "append of two bytes to 699", () -> x.append(0, 0, 0x01000001, 0, 0));
        Check.due("append of one byte to 699", x.append(0, 0, 7, 0, 0), 700);
        Check.badState(x, "append of one byte to 700", () -> x.append(1, 0, 0, 0, 0));
        Check.badState(x, "append of one byte to 700", () -> x.append(0, 1, 0, 0, 0));
        Check.badState(x, "append of one byte to 700", () -> x.append(0, 0, 0x100, 0, 0));
        Check.badState(x, "append of one byte to 700", () -> x.append(0, 0, 0, 0x10000, 0));
        Check.badState(x, "append of one byte to 700", () -> x.append(0, 0, 0, 0, 0x1000000));
        Check.badState(x, "append of twenty bytes to 700", () -> x.append(-1, -1, -1, -1, -1));
        Check.due("append of nothing to 700", x.append(0, 0, 0, 0, 0), 700);
        Check.due("truncate to 0", x.truncate(0), 700);
        BarberParliament y = new BarberParliament();
        for (int i = 0; i < 34; i++) {
            y.append(-1, -1, -1, -1, -1);
        }
        Check.due("append of twenty up to 700", y.append(-1, -1, -1, -1, -1), 700);
    }

    private static void promise3() {
        BarberParliament x = new BarberParliament();
        Check.badArgument(x, "truncate(-1) of an empty buffer", () -> x.truncate(-1));
        Check.badArgument(x, "truncate(1) of an empty buffer", () -> x.truncate(1));
        Check.due("truncate(0) of an empty buffer", x.truncate(0), 0);
        Check.write(x, "adaben");
        Check.badArgument(x, "truncate(7)", () -> x.truncate(7));
        Check.badArgument(x, "truncate(-1)", () -> x.truncate(-1));
        Check.badArgument(x, "truncate(least)", () -> x.truncate(Integer.MIN_VALUE));
        Check.badArgument(x, "truncate(most)", () -> x.truncate(Integer.MAX_VALUE));
        Check.due("truncate(6)", x.truncate(6), 0);
        Check.due("truncate(3)", x.truncate(3), 3);
        Check.due("the head is left", x.findMember(), 0);
        Check.write(x, "x");
        Check.due("truncate(1)", x.truncate(1), 3);
        Check.due("no change", x.undoCount(), 0);
    }

    private static void promise9() {
        BarberParliament x = new BarberParliament();
        Check.due("findMember of nothing", x.findMember(), BarberParliament.NONE);
        Check.write(x, "eli");
        Check.due("findMember of eli", x.findMember(), 4);
        Check.due("findMember again", x.findMember(), 4);
        Check.due("the buffer stays", x.append(0, 0, 0, 0, 0), 3);
        String[] unknown = {"el", "elix", "eli ", " eli", "Eli", "eli;", "ada ben", "eli\n", "zed", "1", "e", "\u00e5da"};
        for (String name : unknown) {
            Check.due("findMember of " + name, Check.find(x, name), BarberParliament.NONE);
        }
    }

    private static void promise9LongAndOddTexts() {
        BarberParliament x = Check.house("house 1 0 1 0 2 0 0; member a 1 0 0; member zzzzzz 1 0 0; member aa 1 0 0;");
        Check.due("findMember of a", Check.find(x, "a"), 0);
        Check.due("findMember of zzzzzz", Check.find(x, "zzzzzz"), 1);
        Check.due("findMember of aa", Check.find(x, "aa"), 2);
        Check.due("findMember of azzzzzz", Check.find(x, "azzzzzz"), BarberParliament.NONE);
        Check.due("findMember of zzzzzzz", Check.find(x, "zzzzzzz"), BarberParliament.NONE);
        Check.due("findMember of zzzzz", Check.find(x, "zzzzz"), BarberParliament.NONE);
        Check.due("findMember of 33 letters", Check.find(x, "aaaaaaaaaaaaaaaaaaaaaaaaaaaaaaaaa"), BarberParliament.NONE);
        Check.due("findMember of the sign before a", Check.find(x, "`"), BarberParliament.NONE);
        Check.due("findMember of the sign behind z", Check.find(x, "zzzzz{"), BarberParliament.NONE);
    }
}
