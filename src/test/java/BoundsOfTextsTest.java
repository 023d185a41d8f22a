import java.util.Arrays;

/** The boundary cases of "Terms", the part "Texts", of the error codes, and of promises 2 to 7 and 9. */
public final class BoundsOfTextsTest {
    private static final String TEXTS = "Terms, Texts: ";
    private static final String HEAD = Bound.HEAD;
    private static final String ONE = "member a 1 0 0;";
    private static final int NONE = Bound.NONE;
    private static final int SYNTAX = Bound.SYNTAX;
    private static final int RANGE = Bound.RANGE;
    private static final int NAME = Bound.NAME;
    private static final int MANY = Bound.MANY;

    public static void main(String[] args) {
        buffer();
        tokens();
        numbers();
        errors();
        loads();
        scripts();
        Check.end();
    }

    private static void buffer() {
        Check.holds(TEXTS + "a text buffer holds at most 700 bytes", BoundsOfTextsTest::bufferOf700);
        Check.holds("Promise 1: an empty text buffer", BoundsOfTextsTest::emptyBuffer);
        Check.holds("Promise 2: the most significant byte first", BoundsOfTextsTest::orderOfBytes);
        Check.holds("Promise 2: bytes that are 0 are left out", BoundsOfTextsTest::zeros);
        Check.holds("Promise 2: bytes from 128 to 255, where a parameter is negative", BoundsOfTextsTest::negativeParameters);
        Check.holds("Promise 2: IllegalStateException if the buffer would hold more than 700 bytes", BoundsOfTextsTest::overfull);
        Check.holds("Promise 2: a refused call appends none of its bytes", BoundsOfTextsTest::nothingAppended);
        Check.holds("Promise 3: the new length, from 0 to the present length", BoundsOfTextsTest::lengths);
        Check.holds("Promise 3: IllegalArgumentException if length is out of range", BoundsOfTextsTest::wrongLengths);
        Check.holds("Promise 3: the number of bytes that were removed, from the end", BoundsOfTextsTest::removedBytes);
        Check.holds("Promise 9: the member whose name is the whole text buffer", BoundsOfTextsTest::wholeBuffer);
        Check.holds("Promise 9: NONE if there is none", BoundsOfTextsTest::unknownNames);
        Check.holds("Promise 9: each single byte beside the name", BoundsOfTextsTest::bytesBesideAName);
    }

    private static String times(char sign, int count) {
        char[] signs = new char[count];
        Arrays.fill(signs, sign);
        return new String(signs);
    }

    private static void bufferOf700() {
        BarberParliament x = new BarberParliament();
        String setup = HEAD + ONE + "member last 2 0 0";
        Check.write(x, setup + times(' ', 699 - setup.length()) + ";");
        Check.due("the bytes", Bound.length(x), 700);
        Check.due("load of a setup whose last token is byte 700", x.load(), 0);
        Check.due("its last member", x.weight(1), 2);
        Check.write(x, times('\n', 692) + "wait 60;");
        Check.due("the bytes", Bound.length(x), 700);
        Check.due("runScript of a script whose last token is byte 700", x.runScript(), 1);
        Check.due("minute", x.minute(), 60);
    }

    private static void emptyBuffer() {
        Check.due("append of nothing", Bound.length(new BarberParliament()), 0);
        Check.due("truncate of nothing", new BarberParliament().truncate(0), 0);
        Check.due("findMember", new BarberParliament().findMember(), NONE);
        Check.due("runScript", new BarberParliament().runScript(), 0);
        Check.due("load", new BarberParliament().load(), SYNTAX);
    }

    private static void orderOfBytes() {
        BarberParliament x = new BarberParliament();
        Check.due("append", x.append(0x61646100, 0, 0, 0, 0), 3);
        Check.due("findMember of ada", x.findMember(), 0);
        x.truncate(0);
        Check.due("append over the parameters", x.append('b' << 24, 'e' << 16, 'n' << 8, 0, 0), 3);
        Check.due("findMember of ben", x.findMember(), 1);
        x.truncate(0);
        Check.due("append over the parameters", x.append('c', 0, 'a', 0, 'i'), 3);
        Check.due("findMember of cai", x.findMember(), 2);
        BarberParliament y = new BarberParliament();
        y.append(0x77616974, 0x20363b77, 0x61697420, 0x313b7761, 0x69742035);
        Check.due("append of a 21st byte", y.append(';', 0, 0, 0, 0), 21);
        Check.due("runScript of wait 6;wait 1;wait 5;", y.runScript(), 3);
        Check.due("minute", y.minute(), 12);
    }

    private static void zeros() {
        BarberParliament x = new BarberParliament();
        Check.due("append of zeros alone", x.append(0, 0, 0, 0, 0), 0);
        Check.due("a zero before", x.append(0x0065, 0, 0, 0, 0), 1);
        Check.due("a zero between and behind", x.append(0x6c006900, 0, 0, 0, 0), 3);
        Check.due("findMember of eli", x.findMember(), 4);
        Check.due("zeros in all four places, in turn", x.append(0x00010101, 0x01000101, 0x01010001, 0x01010100, 0x00000001), 16);
        Check.due("no zero", x.append(0x01010101, 0x01010101, 0x01010101, 0x01010101, 0x01010101), 36);
    }

    private static void negativeParameters() {
        BarberParliament x = new BarberParliament();
        Check.due("append of five times -1", x.append(-1, -1, -1, -1, -1), 20);
        Check.due("append of the least number", x.append(Bound.LEAST, 0, 0, 0, 0), 21);
        Check.due("append of the greatest number", x.append(Bound.MOST, 0, 0, 0, 0), 25);
        Check.due("append of 0x80808080", x.append(0x80808080, 0, 0, 0, 0), 29);
        Check.due("append of -256", x.append(-256, 0, 0, 0, 0), 32);
        x.truncate(0);
        // The letters of ada with the highest bit set are none.
        x.append(0xe1e4e100, 0, 0, 0, 0);
        Check.due("findMember", x.findMember(), NONE);
        Check.due("runScript", x.runScript(), NONE);
        Check.due("errorPosition", x.errorPosition(), 0);
        x.append(0xa0776169, 0x74203100, 0, 0, 0);
        Check.due("a space with the highest bit set is none", x.runScript(), NONE);
        Check.due("errorPosition", x.errorPosition(), 0);
    }

    private static BarberParliament filled(int bytes) {
        BarberParliament x = new BarberParliament();
        Check.write(x, times(' ', bytes));
        return x;
    }

    private static void overfull() {
        Check.due("the 700th byte", filled(699).append(0, 0, 0, 0, 7), 700);
        Check.due("twenty bytes up to 700", filled(680).append(-1, -1, -1, -1, -1), 700);
        Check.due("nothing to 700", filled(700).append(0, 0, 0, 0, 0), 700);
        Check.due("bytes that are 0 do not count", filled(698).append(0x01000000, 0, 0, 0x00010000, 0), 700);
        BarberParliament full = filled(700);
        Check.badState(full, "append of a 701st byte in a", () -> full.append(0x01000000, 0, 0, 0, 0));
        Check.badState(full, "append of a 701st byte in b", () -> full.append(0, 0x00010000, 0, 0, 0));
        Check.badState(full, "append of a 701st byte in c", () -> full.append(0, 0, 0x00000100, 0, 0));
        Check.badState(full, "append of a 701st byte in d", () -> full.append(0, 0, 0, 0x00000001, 0));
        Check.badState(full, "append of a 701st byte in e", () -> full.append(0, 0, 0, 0, Bound.LEAST));
        BarberParliament y = filled(681);
        Check.badState(y, "append of twenty bytes to 681", () -> y.append(-1, -1, -1, -1, -1));
        Check.due("append of nineteen bytes to 681", y.append(-1, -1, -1, -1, 0x01010100), 700);
        BarberParliament z = filled(699);
        Check.badState(z, "append of two bytes to 699", () -> z.append(1, 0, 0, 0, 1));
    }

    private static void nothingAppended() {
        BarberParliament x = new BarberParliament();
        Check.write(x, times(' ', 676) + "wait 1;");
        Check.badState(x, "append of eighteen bytes to 683", () -> x.append(-1, -1, -1, -1, 0x01010000));
        Check.due("the bytes", Bound.length(x), 683);
        Check.due("append of four", x.append(0x77616974, 0, 0, 0, 0), 687);
        Check.due("append of four", x.append(0x20363000, 0x3b000000, 0, 0, 0), 691);
        Check.due("the script reads on where it ended", x.runScript(), 2);
        Check.due("minute", x.minute(), 61);
    }

    private static void lengths() {
        BarberParliament x = filled(700);
        Check.due("the present length", x.truncate(700), 0);
        Check.due("one less", x.truncate(699), 1);
        Check.due("1", x.truncate(1), 698);
        Check.due("1 of 1", x.truncate(1), 0);
        Check.due("0", x.truncate(0), 1);
        Check.due("0 of 0", x.truncate(0), 0);
    }

    private static void wrongLengths() {
        BarberParliament x = new BarberParliament();
        BarberParliament y = filled(5);
        BarberParliament z = filled(700);
        for (int length : new int[] {-1, Bound.LEAST, Bound.MOST, 1}) {
            Check.badArgument(x, "truncate(" + length + ") of nothing", () -> x.truncate(length));
        }
        for (int length : new int[] {-1, Bound.LEAST, Bound.MOST, 6, 700, 256 + 3}) {
            Check.badArgument(y, "truncate(" + length + ") of 5", () -> y.truncate(length));
        }
        for (int length : new int[] {-1, Bound.LEAST, Bound.MOST, 701}) {
            Check.badArgument(z, "truncate(" + length + ") of 700", () -> z.truncate(length));
        }
    }

    private static void removedBytes() {
        BarberParliament x = new BarberParliament();
        Check.write(x, "elix");
        Check.due("truncate", x.truncate(3), 1);
        Check.due("the head is left", x.findMember(), 4);
        x.truncate(0);
        Check.write(x, "ad");
        Check.write(x, "a");
        Check.due("what was removed does not come back", x.findMember(), 0);
    }

    private static void wholeBuffer() {
        BarberParliament x = new BarberParliament();
        String[] names = {"ada", "ben", "cai", "dov", "eli"};
        for (int member = 0; member < 5; member++) {
            x.truncate(0);
            Check.write(x, names[member]);
            Check.due("findMember of " + names[member], x.findMember(), member);
            Check.due("the buffer stays as it is", Bound.length(x), 3);
            Check.due("findMember once more", x.findMember(), member);
        }
        Check.write(x, " ");
        Check.due("with a space behind", x.findMember(), NONE);
        x.truncate(2);
        Check.due("with a letter less", x.findMember(), NONE);
        Check.write(x, "iada");
        Check.due("two names", x.findMember(), NONE);
    }

    private static void unknownNames() {
        BarberParliament x = Check.house(HEAD + "member a 1 0 0; member bcdefg 1 0 0;");
        Check.due("an empty buffer", x.findMember(), NONE);
        String[] unknown = {"b", "aa", "bcdef", "bcdefgh", "abcdefg", "bcdefga", " a", "a ", "\na", "a;", "1", "A"};
        for (String name : unknown) {
            Check.due("findMember of " + name, Check.find(x, name), NONE);
        }
        Check.write(x, times('a', 700));
        Check.due("findMember of 700 letters", x.findMember(), NONE);
        x.truncate(1);
        Check.due("findMember of the first of them", x.findMember(), 0);
    }

    private static void bytesBesideAName() {
        for (int sign = 1; sign < 256; sign++) {
            BarberParliament x = new BarberParliament();
            Check.due("findMember of ad and byte " + sign, Check.find(x, "ad" + (char) sign), sign == 'a' ? 0 : NONE);
            Check.due("findMember of byte " + sign + " and da", Check.find(x, (char) sign + "da"), sign == 'a' ? 0 : NONE);
            Check.due("findMember of ada and byte " + sign, Check.find(x, "ada" + (char) sign), NONE);
        }
    }

    private static void tokens() {
        Check.holds(TEXTS + "a word is a maximal run of the letters a to z", BoundsOfTextsTest::words);
        Check.holds(TEXTS + "a number is a maximal run of decimal digits", BoundsOfTextsTest::runsOfDigits);
        Check.holds(TEXTS + "leading zeros are allowed", BoundsOfTextsTest::leadingZeros);
        Check.holds(TEXTS + "each of ; ( and ) is a token of its own", BoundsOfTextsTest::signs);
        Check.holds(TEXTS + "spaces and line feeds may separate tokens", BoundsOfTextsTest::separators);
        Check.holds(TEXTS + "every other byte is an invalid token", BoundsOfTextsTest::everyByte);
        Check.holds(TEXTS + "every other byte is an invalid token (at the end of a setup)", BoundsOfTextsTest::everyByteAtTheEnd);
        Check.holds(TEXTS + "braces mean any number of repetitions, none too", BoundsOfTextsTest::noRepetition);
        Check.holds(TEXTS + "a bar separates alternatives: the sides", BoundsOfTextsTest::sides);
        Check.holds(TEXTS + "a bar separates alternatives: the rankings", BoundsOfTextsTest::rankings);
        Check.holds(TEXTS + "a name is a word of at most 6 letters", BoundsOfTextsTest::namesInScripts);
    }

    private static void words() {
        Bound.setupError(SYNTAX, "|houses 1 0 1 0 2 0 0;" + ONE);
        Bound.setupError(SYNTAX, "|hous 1 0 1 0 2 0 0;" + ONE);
        Bound.setupError(SYNTAX, "|hous e 1 0 1 0 2 0 0;" + ONE);
        Bound.setupError(SYNTAX, HEAD + "|membera 1 0 0;");
        Bound.setupError(SYNTAX, "|mouse 1 0 1 0 2 0 0;" + ONE);
        Bound.setupError(SYNTAX, "|hours 1 0 1 0 2 0 0;" + ONE);
        Bound.setupError(SYNTAX, "|housf 1 0 1 0 2 0 0;" + ONE);
        Bound.scriptError(SYNTAX, "|bait 1;");
        Bound.scriptError(SYNTAX, "|wain 1;");
        Bound.scriptError(SYNTAX, "|waits 1;");
        Bound.scriptError(SYNTAX, "|waitwait 1;");
        Bound.scriptError(SYNTAX, "propose ada 1; ask ada |fora 0;");
        Bound.scriptError(SYNTAX, "|" + times('z', 700));
        Bound.script("wait1;wait2;propose ada3;ask ada for0;", 4);
    }

    private static void runsOfDigits() {
        Bound.setupError(RANGE, "house |1010200;" + ONE);
        Bound.setupError(RANGE, "house |10 1 0 2 0 0;" + ONE);
        Bound.scriptError(RANGE, "wait |601;");
        Bound.scriptError(SYNTAX, "wait 6 |1;");
        Bound.scriptError(RANGE, "wait |" + times('9', 690) + ";");
        Check.due("minute", Bound.script("wait 10;wait 9;", 2).minute(), 19);
        Check.due("the digits 0 to 9", Bound.script("wait 10; wait 23; wait 45; wait 6; wait 7; wait 8; wait 9;", 7).minute(), 108);
    }

    private static void leadingZeros() {
        Check.due("minute", Bound.script("wait 060; wait 0000000000000000001;", 2).minute(), 61);
        Check.due("minute after 692 zeros", Bound.script("wait " + times('0', 692) + "60;", 1).minute(), 60);
        Bound.scriptError(RANGE, "wait |" + times('0', 600) + ";");
        Bound.scriptError(RANGE, "wait |" + times('0', 600) + "61;");
        BarberParliament x = Check.house("house 04 005 0020 00020 0030 09 012; member a 009 020 0099;");
        Check.due("chairs and mirrors", x.chairCount() * 10 + x.freeMirrors(), 45);
        Check.due("weight and purse", x.weight(0) * 100 + x.purse(0), 999);
    }

    private static void signs() {
        Check.due("signs without blanks", Bound.script("repeat 2(repeat 2(wait 1;););", 4).minute(), 4);
        Check.due("signs with blanks", Bound.script("repeat 2 ( repeat 2 ( wait 1 ; ) ; ) ; ", 4).minute(), 4);
        Bound.scriptError(SYNTAX, "wait 1;|;");
        Bound.scriptError(SYNTAX, "repeat 1(|(wait 1;););");
        Bound.scriptError(SYNTAX, "repeat 1(wait 1;)|);");
        Bound.scriptError(SYNTAX, "|();");
        Bound.setupError(SYNTAX, HEAD + ONE + "|;");
        Bound.setupError(SYNTAX, HEAD + "|(" + ONE + ")");
    }

    private static void separators() {
        Check.due("many of them", Bound.script(" \n \n\n wait \n 1 \n ; \n\n", 1).minute(), 1);
        Check.due("none of them", Bound.script("wait1;", 1).minute(), 1);
        Check.due("none but them", Bound.script(" \n ", 0).minute(), 0);
        Bound.setupError(SYNTAX, " \n |");
        Bound.scriptError(SYNTAX, " \n|5");
        Bound.scriptError(RANGE, "\n\nwait\n  |0;");
    }

    private static void everyByte() {
        for (int sign = 1; sign < 256; sign++) {
            String text = "wait" + (char) sign + "1;";
            boolean isLetter = sign >= 'a' && sign <= 'z';
            boolean isDigit = sign >= '0' && sign <= '9';
            int minutes = isDigit ? 10 * (sign - '0') + 1 : 1;
            if (sign == ' ' || sign == '\n' || isDigit && minutes <= 60) {
                Check.due("minute after byte " + sign, Bound.script(text, 1).minute(), minutes);
            } else {
                BarberParliament x = new BarberParliament();
                Check.due("runScript with byte " + sign, Check.run(x, text), NONE);
                Check.due("errorCode with byte " + sign, x.errorCode(), isDigit ? RANGE : SYNTAX);
                Check.due("errorPosition with byte " + sign, x.errorPosition(), isLetter ? 0 : 4);
            }
        }
    }

    private static void everyByteAtTheEnd() {
        for (int sign = 1; sign < 256; sign++) {
            BarberParliament x = new BarberParliament();
            Check.write(x, HEAD + ONE + (char) sign);
            boolean isBlank = sign == ' ' || sign == '\n';
            Check.due("load with byte " + sign, x.load(), isBlank ? 0 : SYNTAX);
            Check.due("errorPosition with byte " + sign, x.errorPosition(), isBlank ? NONE : HEAD.length() + ONE.length());
        }
    }

    private static void noRepetition() {
        Check.due("a script without a command", Bound.script("", 0).undoCount(), 1);
        Check.due("brackets without a command", Bound.script("repeat 20 (); wait 1;", 1).minute(), 1);
        Check.due("a setup with one member", Check.house(HEAD + ONE).memberCount(), 1);
        Bound.setupError(SYNTAX, HEAD + "|");
    }

    private static void sides() {
        BarberParliament x = Bound.script("propose ada 8; ask ada for 0; ask ben against 0;", 3);
        Check.due("the list", Bound.requests(x), "ada+0,ben-0");
        String[] words = {"fo", "fora", "form", "nor", "agains", "againsts", "again", "pro", "ada", "wait"};
        for (String word : words) {
            Bound.scriptError(SYNTAX, "ask ada |" + word + " 0;");
        }
    }

    private static void rankings() {
        String[] words = {"arrival", "heaviest", "quietest", "contrast"};
        for (int ranking = 0; ranking < 4; ranking++) {
            BarberParliament x = new BarberParliament();
            x.setRanking((ranking + 1) % 4);
            Check.runAll(x, "rank " + words[ranking] + ";", 1);
            Check.due("ranking", x.ranking(), ranking);
            Bound.scriptError(SYNTAX, "rank |" + words[ranking] + "s;");
            Bound.scriptError(SYNTAX, "rank |" + words[ranking].substring(1) + ";");
            Bound.scriptError(SYNTAX, "rank |" + words[ranking].substring(0, 6) + ";");
            Bound.scriptError(SYNTAX, "rank |" + ranking + ";");
        }
    }

    private static void namesInScripts() {
        BarberParliament x = Check.house(HEAD + "member a 1 5 0; member bcdefg 1 5 0;");
        Check.runAll(x, "propose a 5; propose bcdefg 5; ask a for 0; ask bcdefg for 1;", 4);
        Check.due("the longest name", x.proposer(1), 1);
        Bound.scriptError(RANGE, "propose |abcdefg 5;");
        Bound.scriptError(RANGE, "ask |adaadaa for 0;");
        Bound.scriptError(RANGE, "rebut |abcdefg 0;");
        Bound.scriptError(RANGE, "sharpen |" + times('a', 690) + ";");
        Bound.scriptError(NAME, "sharpen |abcdef;");
        Bound.scriptError(NAME, "sharpen |a;");
        Bound.scriptError(SYNTAX, "sharpen |;");
        Bound.scriptError(SYNTAX, "sharpen |5;");
    }

    private static void numbers() {
        Check.holds(TEXTS + "the numbers of a setup are in these ranges (the smallest)", BoundsOfTextsTest::smallestSetup);
        Check.holds(TEXTS + "the numbers of a setup are in these ranges (the largest)", BoundsOfTextsTest::largestSetup);
        Check.holds(TEXTS + "chairs 1 to 4", () -> setupNumber(0, 1, 4));
        Check.holds(TEXTS + "mirrors 0 to 5", () -> setupNumber(1, 0, 5));
        Check.holds(TEXTS + "speechTime 1 to 20", () -> setupNumber(2, 1, 20));
        Check.holds(TEXTS + "reach 0 to 20", () -> setupNumber(3, 0, 20));
        Check.holds(TEXTS + "dryingTime 2 to 30", () -> setupNumber(4, 2, 30));
        Check.holds(TEXTS + "requiredLevel 0 to 9", () -> setupNumber(5, 0, 9));
        Check.holds(TEXTS + "quorum 0 to 12", () -> setupNumber(6, 0, 12));
        Check.holds(TEXTS + "in a script a position is 0 to 20", () -> scriptNumber("propose ada ", 0, 20, ";"));
        Check.holds(TEXTS + "in a script a motion is 0 to 15 (ask for)", () -> scriptNumber("ask ada for ", 0, 15, ";"));
        Check.holds(TEXTS + "in a script a motion is 0 to 15 (ask against)", () -> scriptNumber("ask ada against ", 0, 15, ";"));
        Check.holds(TEXTS + "in a script a motion is 0 to 15 (vote)", () -> scriptNumber("vote ", 0, 15, ";"));
        Check.holds(TEXTS + "in a script a motion is 0 to 15 (withdraw)", () -> scriptNumber("withdraw ", 0, 15, ";"));
        Check.holds(TEXTS + "in a script a chair is 0 to 3", () -> scriptNumber("rebut ada ", 0, 3, ";"));
        Check.holds(TEXTS + "in a script minutes are 1 to 60", () -> scriptNumber("wait ", 1, 60, ";"));
        Check.holds(TEXTS + "in a script times are 0 to 20", () -> scriptNumber("repeat ", 0, 20, "();"));
        Check.holds(TEXTS + "the motion 15, the chair 3, 60 minutes and 20 times are met", BoundsOfTextsTest::largestOperands);
    }

    private static void smallestSetup() {
        BarberParliament x = Check.house("house 1 0 1 0 2 0 0; member a 1 0 0;");
        Check.due("chairs, mirrors", x.chairCount() * 10 + x.freeMirrors(), 10);
        Check.due("members, weight, purse", x.memberCount() * 100 + x.weight(0) * 10 + x.purse(0), 110);
        Check.runAll(x, "propose a 0; ask a for 0; wait 1;", 3);
        Check.due("position and speech time", x.leaning(0, 0) * 10 + x.remainingTime(0), 51);
        Check.yes("required level and quorum", x.obstacle(0) == BarberParliament.SPEECH_RUNNING);
    }

    private static void largestSetup() {
        BarberParliament x = Check.house("house 4 5 20 20 30 9 12; member zzzzzz 9 20 99;");
        Check.due("chairs, mirrors", x.chairCount() * 10 + x.freeMirrors(), 45);
        Check.due("weight, purse", x.weight(0) * 100 + x.purse(0), 999);
        Check.runAll(x, "propose zzzzzz 20; repeat 8 (ask zzzzzz for 0; wait 21;);", 17);
        Check.due("position and drying time", x.leaning(0, 0) * 10 + x.lather(0), 50 + 8 - 5);
        Check.due("required level", x.obstacle(0), BarberParliament.TOO_DRY);
        Check.runAll(x, "ask zzzzzz for 0; wait 1;", 2);
        Check.due("speech time", x.remainingTime(0), 20);
    }

    /** A setup in which all but one number are allowed. */
    private static String setup(int place, String number) {
        String[] all = {"1", "0", "1", "0", "2", "0", "0"};
        all[place] = number;
        return "house " + String.join(" ", all) + ";" + ONE;
    }

    private static void setupNumber(int place, int least, int most) {
        for (int number = least; number <= most; number++) {
            BarberParliament x = new BarberParliament();
            Check.write(x, setup(place, String.valueOf(number)));
            Check.due("load with " + number, x.load(), 0);
        }
        if (least > 0) {
            Bound.setupError(RANGE, setup(place, "|" + (least - 1)));
        }
        Bound.setupError(RANGE, setup(place, "|" + (most + 1)));
        Bound.setupError(SYNTAX, setup(place, "|-1"));
        Bound.setupError(SYNTAX, setup(place, "|x"));
        for (String number : Bound.wrapped(least)) {
            Bound.setupError(RANGE, setup(place, "|" + number));
        }
        for (String number : Bound.wrapped(most)) {
            Bound.setupError(RANGE, setup(place, "|" + number));
        }
    }

    private static void scriptNumber(String before, int least, int most, String after) {
        for (int number = least; number <= most; number++) {
            BarberParliament x = new BarberParliament();
            Check.yes("runScript with " + number, Check.run(x, before + number + after) != NONE);
            Check.due("errorCode with " + number, x.errorCode(), 0);
        }
        if (least > 0) {
            Bound.scriptError(RANGE, before + "|" + (least - 1) + after);
        }
        Bound.scriptError(RANGE, before + "|" + (most + 1) + after);
        Bound.scriptError(SYNTAX, before + "|-1" + after);
        Bound.scriptError(SYNTAX, before + "|ada" + after);
        Bound.scriptError(SYNTAX, before + "|");
        for (String number : Bound.wrapped(least)) {
            Bound.scriptError(RANGE, before + "|" + number + after);
        }
        for (String number : Bound.wrapped(most)) {
            Bound.scriptError(RANGE, before + "|" + number + after);
        }
    }

    private static void largestOperands() {
        BarberParliament x = Check.house("house 4 5 3 0 30 0 0;" + Bound.members(4, "1 5 0") + "member z 1 20 0;");
        Check.runAll(x, "repeat 16 (propose a 5;); ask a for 15; ask b for 15; ask c for 15; ask d against 14; wait 1;", 21);
        Check.runAll(x, "rebut z 0; rebut b 3;", 1);
        Check.yes("the first chair is rebutted", x.isRebutted(0));
        Check.runAll(x, "wait 60; rank contrast; vote 15; withdraw 14; vote 0;", 5);
        Check.due("states", x.motionState(15) * 100 + x.motionState(14) * 10 + x.motionState(0), 131);
        BarberParliament y = Check.house("house 4 5 3 0 30 0 0;" + Bound.members(4, "1 5 0") + "member z 1 20 0;");
        Check.runAll(y, "propose a 5; ask a for 0; ask b for 0; ask c for 0; ask d for 0; wait 1; rebut z 3;", 7);
        Check.yes("the last chair is rebutted", y.isRebutted(3));
        Check.due("minute after 20 times 60", Bound.script("repeat 20 (wait 60;);", 20).minute(), 1200);
        Check.due("minute after 0 times", Bound.script("repeat 0 (wait 60;);", 0).minute(), 0);
        Check.due("minute after 1 time", Bound.script("repeat 1 (wait 60;);", 1).minute(), 60);
    }

    private static void errors() {
        Check.holds(TEXTS + "the parser stops at the first token that has an error", BoundsOfTextsTest::firstError);
        Check.holds(TEXTS + "the smallest code is reported", BoundsOfTextsTest::smallestCode);
        Check.holds(TEXTS + "the error position is the index of the first byte of the token", BoundsOfTextsTest::firstByte);
        Check.holds(TEXTS + "or the length of the text if the text ends too early", BoundsOfTextsTest::endsTooEarly);
        Check.holds("Terms, constants: SYNTAX, a token is not allowed at its place", BoundsOfTextsTest::wrongPlaces);
        Check.holds("Terms, constants: OUT_OF_RANGE, a word with more than 6 letters where a name is required", BoundsOfTextsTest::longWords);
        Check.holds("Terms, constants: WRONG_NAME, a name that an earlier member has", BoundsOfTextsTest::earlierNames);
        Check.holds("Terms, constants: WRONG_NAME, in a script a name that no member has", BoundsOfTextsTest::namesOfNobody);
        Check.holds("Terms, constants: TOO_MANY, the word of a 13th member", BoundsOfTextsTest::thirteenMembers);
        Check.holds("Terms, constants: TOO_MANY, the word of a 31st command", BoundsOfTextsTest::thirtyOneCommands);
        Check.holds("Terms, constants: TOO_MANY, those in brackets and repeat included", BoundsOfTextsTest::bracketsAndRepeat);
        Check.holds("Terms, constants: TOO_MANY, the bracket ( inside of two others", BoundsOfTextsTest::threeBrackets);
    }

    private static void firstError() {
        Bound.setupError(RANGE, "house |9 x 1 0 2 0 0;" + ONE);
        Bound.setupError(SYNTAX, "house 1 |x 99 0 2 0 0;" + ONE);
        Bound.setupError(NAME, HEAD + ONE + "member |a 0 99 x");
        Bound.setupError(RANGE, HEAD + "member a |0 99 x; member a 1 0 0;");
        Bound.scriptError(NAME, "propose |zed 99 x");
        Bound.scriptError(SYNTAX, "propose ada 1 |x wait 99; propose zed 1;");
        Bound.scriptError(RANGE, "wait |99; wait x; propose zed 1;");
        Bound.scriptError(RANGE, "wait 1; wait |0");
    }

    private static void smallestCode() {
        // A word of seven letters is a name that no member has, too: 2 and 3.
        Bound.scriptError(RANGE, "propose |adaadaa 1;");
        // In a setup it may begin like an earlier one: 2 and 3.
        Bound.setupError(RANGE, HEAD + "member abcdef 1 0 0; member |abcdefg 1 0 0;");
        // A word that begins no command, as the 31st: 1 and 4.
        Bound.scriptError(SYNTAX, waits(30) + "|waits 1;");
        // A word that is not member, as the 13th: 1 and 4.
        Bound.setupError(SYNTAX, HEAD + Bound.members(12, "1 0 0") + "|house m 1 0 0;");
        // A third bracket where none is allowed: 1 and 4.
        Bound.scriptError(SYNTAX, "repeat 1 (repeat 1 (|(wait 1;););");
        Bound.scriptError(SYNTAX, "repeat 1 (repeat 1 (repeat |( 1 ();););");
        // A number out of its range where none is allowed: 1 and 2.
        Bound.scriptError(SYNTAX, "wait 1 |999;");
        Bound.setupError(SYNTAX, "house 1 0 1 0 2 0 0 |999;" + ONE);
    }

    private static String waits(int count) {
        StringBuilder text = new StringBuilder();
        for (int i = 0; i < count; i++) {
            text.append("wait 1;");
        }
        return text.toString();
    }

    private static void firstByte() {
        Bound.setupError(SYNTAX, "|x");
        Bound.setupError(SYNTAX, " |xyz");
        Bound.setupError(RANGE, "house\n\n |123 0 1 0 2 0 0;");
        Bound.scriptError(SYNTAX, times(' ', 699) + "|x");
        Bound.scriptError(SYNTAX, times(' ', 699) + "|\u00ff");
        Bound.scriptError(RANGE, times(' ', 690) + "wait |99999");
        Bound.scriptError(RANGE, "wait |" + times('9', 695));
        Bound.setupError(SYNTAX, times('\n', 300) + "|" + times('x', 400));
    }

    private static void endsTooEarly() {
        Bound.setupError(SYNTAX, "|");
        Bound.setupError(SYNTAX, "house|");
        Bound.setupError(SYNTAX, "house \n|");
        Bound.setupError(SYNTAX, times(' ', 700) + "|");
        Bound.setupError(SYNTAX, HEAD + "member a 1 0 0|");
        Bound.setupError(SYNTAX, HEAD + "member a 1 0 |");
        Bound.scriptError(SYNTAX, "wait|");
        Bound.scriptError(SYNTAX, "wait 1|");
        Bound.scriptError(SYNTAX, "wait 1 \n|");
        Bound.scriptError(SYNTAX, "wait 1" + times(' ', 694) + "|");
        Bound.scriptError(SYNTAX, "repeat 1 (wait 1;|");
        Bound.scriptError(SYNTAX, "repeat 1 (wait 1;)  |");
    }

    private static void wrongPlaces() {
        Bound.setupError(SYNTAX, "|" + ONE + HEAD);
        Bound.setupError(SYNTAX, HEAD + ONE + "|" + HEAD);
        Bound.setupError(SYNTAX, HEAD + "member a 1 0 0 |0;");
        Bound.setupError(SYNTAX, HEAD + "member a 1 0|;");
        Bound.setupError(SYNTAX, "house 1 0 1 0 2 0|;" + ONE);
        Bound.scriptError(SYNTAX, "|" + HEAD);
        Bound.scriptError(SYNTAX, "wait 1; |)");
        Bound.scriptError(SYNTAX, "ask ada |0;");
        Bound.scriptError(SYNTAX, "rank |ada;");
        Bound.scriptError(SYNTAX, "rank |0;");
        Bound.scriptError(SYNTAX, "repeat 2 |;");
        Bound.scriptError(SYNTAX, "repeat |(wait 1;);");
    }

    private static void longWords() {
        Bound.setupError(RANGE, HEAD + "member |abcdefg 1 0 0;");
        Bound.setupError(RANGE, HEAD + "member |" + times('a', 600) + " 1 0 0;");
        Check.due("a word of six", Check.house(HEAD + "member abcdef 1 0 0;").memberCount(), 1);
        Bound.setupError(SYNTAX, HEAD + "|abcdefg 1 0 0;");
        Bound.scriptError(SYNTAX, "|abcdefg 1;");
        Bound.scriptError(SYNTAX, "ask ada |abcdefg 0;");
        Bound.scriptError(SYNTAX, "rank |abcdefg;");
    }

    private static void earlierNames() {
        Bound.setupError(NAME, HEAD + ONE + "member |a 1 0 0;");
        Bound.setupError(NAME, HEAD + Bound.members(11, "1 0 0") + "member |a 1 0 0;");
        Bound.setupError(NAME, HEAD + Bound.members(11, "1 0 0") + "member |k 1 0 0;");
        BarberParliament x = new BarberParliament();
        Check.write(x, HEAD + "member ada 1 0 0; member ben 1 0 0;");
        Check.due("names of the chamber before", x.load(), 0);
        Check.write(x, HEAD + "member zed 1 0 0; member zed 1 0 0;");
        Check.due("a name twice", x.load(), NAME);
        Check.write(x, HEAD + "member zed 1 0 0;");
        Check.due("the name of the setup that was refused", x.load(), 0);
    }

    private static void namesOfNobody() {
        Bound.scriptError(NAME, "propose |zed 1;");
        Bound.scriptError(NAME, "ask |a for 0;");
        Bound.scriptError(NAME, "rebut |adab 0;");
        Bound.scriptError(NAME, "sharpen |member;");
        BarberParliament x = Check.house(HEAD + "member zed 1 0 0;");
        Check.due("a member of the chamber before", Check.run(x, "propose ada 1;"), NONE);
        Check.due("errorCode", x.errorCode(), NAME);
        Check.runAll(x, "propose zed 1;", 1);
    }

    private static void thirteenMembers() {
        Check.due("twelve", Bound.crowd(HEAD, 12).memberCount(), 12);
        Bound.setupError(MANY, HEAD + Bound.members(12, "1 0 0") + "|member m 1 0 0;");
        Bound.setupError(MANY, HEAD + Bound.members(12, "1 0 0") + " |member");
        Bound.setupError(MANY, HEAD + Bound.members(12, "1 0 0") + "\n|member a 0 99 x");
        Bound.setupError(MANY, HEAD + Bound.members(12, "1 0 0") + "|member m 1 0 0; member n 1 0 0;");
        Bound.setupError(RANGE, HEAD + Bound.members(11, "1 0 0") + "member m |0 0 0; member n 1 0 0;");
    }

    private static void thirtyOneCommands() {
        Check.due("minute after 30", Bound.script(waits(30), 30).minute(), 30);
        Bound.scriptError(MANY, waits(30) + "|wait 1;");
        Bound.scriptError(MANY, waits(30) + "|wait");
        String[] words = {"propose zed 99;", "ask zed;", "rebut zed;", "vote x;", "withdraw x;", "sharpen zed;", "rank x;", "repeat 99"};
        for (String word : words) {
            Bound.scriptError(MANY, waits(30) + " |" + word);
        }
        Bound.scriptError(SYNTAX, waits(30) + "|;");
        Bound.scriptError(RANGE, waits(29) + "wait |0; wait 1;");
        Bound.scriptError(SYNTAX, waits(29) + "wait 1 |wait 1;");
    }

    private static void bracketsAndRepeat() {
        Check.due("29 in brackets", Bound.script("repeat 1 (" + waits(29) + ");", 29).minute(), 29);
        Bound.scriptError(MANY, "repeat 1 (" + waits(29) + "|wait 1;);");
        Bound.scriptError(MANY, "repeat 1 (" + waits(29) + ");|wait 1;");
        Bound.scriptError(MANY, "repeat 0 (" + waits(29) + ");|wait 1;");
        Check.due("28 in two brackets", Bound.script("repeat 1 (repeat 1 (" + waits(28) + "););", 28).minute(), 28);
        Bound.scriptError(MANY, "repeat 1 (repeat 1 (" + waits(28) + "|wait 1;););");
        Check.due("repeat as the 30th", Bound.script(waits(29) + "repeat 20 ();", 29).minute(), 29);
        Bound.scriptError(MANY, waits(29) + "repeat 20 (|wait 1;);");
        Bound.scriptError(MANY, waits(30) + "|repeat 1 ();");
        Check.due("30 times repeat", Bound.script("repeat 1();".repeat(30), 0).minute(), 0);
        Bound.scriptError(MANY, "repeat 1();".repeat(30) + "|repeat 1();");
    }

    private static void threeBrackets() {
        Check.due("two brackets", Bound.script("repeat 2 (repeat 3 (wait 1;););", 6).minute(), 6);
        Bound.scriptError(MANY, "repeat 1 (repeat 1 (repeat 1 |(wait 1;);););");
        Bound.scriptError(MANY, "repeat 1 (repeat 1 (repeat 1 |(");
        Bound.scriptError(MANY, "repeat 1 (wait 1; repeat 1 (wait 1; repeat 1 |();););");
        Bound.scriptError(MANY, "repeat 0 (repeat 0 (repeat 0 |();););");
        Bound.scriptError(SYNTAX, "repeat 1 (repeat 1 (repeat 1 |wait 1;););");
        Bound.scriptError(SYNTAX, "repeat 1 (repeat 1 (repeat 1|");
        Bound.scriptError(RANGE, "repeat 1 (repeat 1 (repeat |21 (););););");
        Check.due("brackets one behind the other do not count",
            Bound.script("repeat 1 (repeat 1 (wait 1;); repeat 1 (wait 1;);); repeat 1 (repeat 1 (wait 1;););", 3).minute(), 3);
        Bound.scriptError(MANY, "repeat 1 (repeat 1 (wait 1;); repeat 1 (repeat 1 |();););");
    }

    private static void loads() {
        Check.holds("Promise 4: load empties the buffer, with an error too", BoundsOfTextsTest::loadEmptiesTheBuffer);
        Check.holds("Promise 4: with an error the chamber stays as it is", BoundsOfTextsTest::chamberStays);
        Check.holds("Promise 4: a new chamber, in which nothing has happened", BoundsOfTextsTest::newChamber);
        Check.holds("Promise 4: motions of the chamber before leave nothing behind", BoundsOfTextsTest::newMotions);
        Check.holds("Promise 4: nothing can be undone", BoundsOfTextsTest::nothingToUndo);
        Check.holds("Promise 4: both slots are empty", BoundsOfTextsTest::emptySlots);
        Check.holds("Promise 4: returns 0, or the error code", BoundsOfTextsTest::loadAnswers);
        Check.holds("Promise 6: 0 if there was no error or no such call", BoundsOfTextsTest::noErrorCode);
        Check.holds("Promise 7: NONE if there was no error or no such call", BoundsOfTextsTest::noErrorPosition);
        Check.holds("Promises 6 and 7: of the latest call", BoundsOfTextsTest::latestCall);
    }

    private static void loadEmptiesTheBuffer() {
        BarberParliament x = new BarberParliament();
        Check.write(x, HEAD + ONE);
        Check.due("load", x.load(), 0);
        Check.due("the bytes", Bound.length(x), 0);
        Check.write(x, times('x', 700));
        Check.due("load", x.load(), SYNTAX);
        Check.due("the bytes", Bound.length(x), 0);
        Check.due("load of nothing", x.load(), SYNTAX);
        Check.due("the bytes", Bound.length(x), 0);
        Check.write(x, times(' ', 700));
        Check.due("there is room for 700 again", Bound.length(x), 700);
    }

    private static void chamberStays() {
        BarberParliament x = new BarberParliament();
        Check.runAll(x, "propose ada 8; ask cai against 0; ask ben for 0; wait 2; rebut ada 0; rank contrast;", 6);
        x.save(1);
        x.setRanking(1);
        String before = Check.state(x);
        String[] errors = {"", "house", "house 4 5 20 20 30 9 12;", "house 4 5 20 20 30 9 12; member ada 1 0 0; member ada 1 0 0;"};
        for (String text : errors) {
            Check.write(x, text);
            Check.yes("load of " + text, x.load() != 0);
        }
        Check.due("the state", Check.state(x), before);
        Check.due("chairCount", x.chairCount(), 2);
        Check.due("undo", x.undo(), 1);
        Check.due("restore of slot 1", x.restore(1), 2);
        Check.noElement(x, "restore of slot 0", () -> x.restore(0));
    }

    private static void newChamber() {
        BarberParliament x = eventful();
        Check.due("what has happened", numbers(x), "[5, 4, 1, 1, 1, 1, 3, 2, 3, 2, 6]");
        Check.write(x, HEAD + ONE);
        Check.due("load", x.load(), 0);
        Check.due("what has happened", numbers(x), Arrays.toString(new int[11]));
        Check.due("the state", Check.state(x), Check.state(Check.house(HEAD + ONE)));
        Check.due("contradictions", x.contradictions(), 0);
        Check.noSuch(x, "speaker of a chair of the chamber before", () -> x.speaker(1));
        Check.noSuch(x, "lather of a motion of the chamber before", () -> x.lather(0));
        Check.noSuch(x, "weight of a member of the chamber before", () -> x.weight(1));
    }

    /** Something of everything has happened: motion 0 is passed, 1 has lather and has had a speech, one about 2 is running. */
    private static BarberParliament eventful() {
        BarberParliament x = Check.house("house 1 1 3 0 30 0 0; member a 3 5 9; member b 1 20 9;");
        Check.runAll(x, "propose a 5; propose a 5; propose a 5; vote 0; sharpen a; ask a for 1; wait 4;", 7);
        Check.runAll(x, "ask a for 2; wait 1; rebut b 0; ask b for 1; rank contrast; propose b 5;", 6);
        return x;
    }

    private static String numbers(BarberParliament x) {
        int[] told = {x.minute(), x.motionCount(), x.requestCount(), x.tips(), x.voteCount(), x.rebuttalCount(), x.ranking(),
            x.undoCount(), x.remainingTime(0), x.speechesOf(0), x.purse(0)};
        return Arrays.toString(told);
    }

    private static void newMotions() {
        BarberParliament x = eventful();
        Check.write(x, "house 1 0 1 0 30 0 0; member a 1 5 0; member b 1 5 0; member c 1 5 0;");
        Check.due("load", x.load(), 0);
        Check.runAll(x, "propose b 0; propose b 0; propose b 0; ask a for 1; ask b against 1;", 5);
        Check.due("the state", x.motionState(0), BarberParliament.OPEN);
        Check.due("lather", x.lather(1), 0);
        Check.due("leanings", Bound.leanings(x, 1), "0 0 0");
        Check.due("proposer", x.proposer(0), 1);
        Check.due("no speech about motion 1 has started", x.firstBy(BarberParliament.CONTRAST), 0);
    }

    private static void nothingToUndo() {
        BarberParliament x = new BarberParliament();
        for (int change = 0; change < 9; change++) {
            x.advance(1);
        }
        Check.write(x, HEAD + ONE);
        x.load();
        Check.due("undoCount", x.undoCount(), 0);
        Check.badState(x, "undo", () -> x.undo());
        x.advance(5);
        Check.due("undoCount", x.undoCount(), 1);
        Check.due("undo", x.undo(), 0);
        Check.due("minute", x.minute(), 0);
        Check.badState(x, "undo", () -> x.undo());
    }

    private static void emptySlots() {
        BarberParliament x = new BarberParliament();
        x.save(0);
        x.save(1);
        Check.write(x, HEAD + ONE);
        x.load();
        Check.noElement(x, "restore(0)", () -> x.restore(0));
        Check.noElement(x, "restore(1)", () -> x.restore(1));
        x.save(1);
        Check.noElement(x, "restore(0)", () -> x.restore(0));
        Check.due("restore(1)", x.restore(1), 0);
    }

    private static void loadAnswers() {
        String[] texts = {HEAD + ONE, HEAD, "house 5", HEAD + ONE + ONE, HEAD + Bound.members(12, "1 0 0") + "member"};
        for (int code = 0; code < texts.length; code++) {
            BarberParliament x = new BarberParliament();
            Check.write(x, texts[code]);
            Check.due("load of " + texts[code], x.load(), code);
            Check.due("errorCode", x.errorCode(), code);
        }
    }

    private static void noErrorCode() {
        BarberParliament x = new BarberParliament();
        Check.due("no such call", x.errorCode(), 0);
        Check.write(x, "wait 99;");
        Check.due("text alone is no call", x.errorCode(), 0);
        x.runScript();
        Check.due("an error", x.errorCode(), RANGE);
        Check.run(x, "vote 9;");
        Check.due("a script that stops at once has no error", x.errorCode(), 0);
        x.load();
        Check.due("an error", x.errorCode(), SYNTAX);
        Check.write(x, HEAD + ONE);
        x.load();
        Check.due("no error", x.errorCode(), 0);
    }

    private static void noErrorPosition() {
        BarberParliament x = new BarberParliament();
        Check.due("no such call", x.errorPosition(), NONE);
        Check.run(x, "|");
        Check.due("an error at 0", x.errorPosition(), 0);
        Check.run(x, "");
        Check.due("no error", x.errorPosition(), NONE);
        x.load();
        Check.due("an empty setup", x.errorPosition(), 0);
        Check.write(x, HEAD + ONE);
        x.load();
        Check.due("no error", x.errorPosition(), NONE);
        Check.write(x, times(' ', 700));
        x.load();
        Check.due("the greatest position", x.errorPosition(), 700);
    }

    private static void latestCall() {
        BarberParliament x = new BarberParliament();
        Check.run(x, "wait 1; wait 61;");
        Check.due("runScript", x.errorCode() * 100 + x.errorPosition(), 213);
        x.advance(1);
        x.undo();
        x.truncate(0);
        Check.badArgument(x, "advance(0)", () -> x.advance(0));
        x.writeChairs();
        x.save(0);
        x.restore(0);
        Check.due("other calls leave it", x.errorCode() * 100 + x.errorPosition(), 213);
        Check.write(x, HEAD + ONE + ONE);
        x.load();
        Check.due("load", x.errorCode() * 100 + x.errorPosition(), 300 + HEAD.length() + ONE.length() + 7);
    }

    private static void scripts() {
        Check.holds("Promise 5: runScript empties the buffer, with an error too", BoundsOfTextsTest::runScriptEmptiesTheBuffer);
        Check.holds("Promise 5: the execution ends before the first command whose method would throw", BoundsOfTextsTest::endsBefore);
        Check.holds("Promise 5: which method would throw what", BoundsOfTextsTest::everyRefusal);
        Check.holds("Promise 5: the execution ends after 40 commands", BoundsOfTextsTest::fortyCommands);
        Check.holds("Promise 5: repeat itself is not counted", BoundsOfTextsTest::repeatDoesNotCount);
        Check.holds("Promise 5: commands that were executed before stay in effect", BoundsOfTextsTest::staysInEffect);
        Check.holds("Promise 5: NONE if the text has an error; then the call is not a change", BoundsOfTextsTest::noChange);
    }

    private static void runScriptEmptiesTheBuffer() {
        BarberParliament x = new BarberParliament();
        Check.due("runScript", Check.run(x, "wait 1;"), 1);
        Check.due("the bytes", Bound.length(x), 0);
        Check.due("runScript", Check.run(x, times('x', 700)), NONE);
        Check.due("the bytes", Bound.length(x), 0);
        Check.due("runScript of nothing", x.runScript(), 0);
        Check.due("minute", x.minute(), 1);
    }

    private static void endsBefore() {
        Check.due("at once", Bound.script("vote 0; wait 1;", 0).minute(), 0);
        Check.due("before the last", Bound.script("wait 1; wait 1; vote 0;", 2).minute(), 2);
        Check.due("in brackets", Bound.script("repeat 3 (wait 1; vote 0;); wait 1;", 1).minute(), 1);
        Check.due("in two brackets", Bound.script("repeat 3 (repeat 3 (wait 1; vote 0;); wait 1;); wait 1;", 1).minute(), 1);
        Check.due("in a later round", Bound.script("repeat 20 (propose ada 1;); wait 1;", 16).minute(), 0);
        BarberParliament x = Bound.script("repeat 3 (propose ada 1; withdraw 1; wait 1;); wait 9;", 1);
        Check.due("motions and minute", x.motionCount() * 10 + x.minute(), 10);
        BarberParliament y = new BarberParliament();
        Bound.passToTheEnd(y);
        Check.due("a wait beyond minute 9999", Check.run(y, "propose ada 1; wait 1; propose ada 1;"), 1);
    }

    private static void everyRefusal() {
        String[] refused = {"ask ada for 1;", "ask ben for 0;", "rebut ada 3;", "rebut ada 0;", "vote 1;", "vote 0;", "withdraw 1;", "sharpen ada;"};
        for (String command : refused) {
            BarberParliament x = Bound.script("propose ada 8; ask ben for 0; wait 1;" + command + "wait 1;", 3);
            Check.due("minute after " + command, x.minute(), 1);
        }
        Check.due("withdraw while a speech is running", Bound.script("propose ada 8; ask ben for 0; wait 1; withdraw 0; wait 1;", 3).minute(), 1);
        Check.due("a 17th motion", Bound.script("repeat 16 (propose ada 1;); propose ada 1; wait 1;", 16).minute(), 0);
    }

    private static void fortyCommands() {
        Check.due("39", Bound.script("repeat 13 (wait 1; wait 1; wait 1;);", 39).minute(), 39);
        Check.due("40", Bound.script("repeat 20 (wait 1; wait 1;);", 40).minute(), 40);
        Check.due("41", Bound.script("repeat 20 (wait 1; wait 1;); wait 9;", 40).minute(), 40);
        Check.due("60", Bound.script("repeat 20 (wait 1; wait 1; wait 1;);", 40).minute(), 40);
        Check.due("400", Bound.script("repeat 20 (repeat 20 (wait 1;););", 40).minute(), 40);
        Check.due("the 41st would be refused", Bound.script("repeat 20 (wait 1; wait 1;); vote 0;", 40).minute(), 40);
        Check.due("the 40th is refused", Bound.script("repeat 13 (wait 1; wait 1; wait 1;); vote 0; wait 1;", 39).minute(), 39);
        BarberParliament x = Bound.script("repeat 20 (wait 1; wait 1;);", 40);
        Check.due("the next script begins anew", Check.run(x, "repeat 20 (wait 1; wait 1;);"), 40);
        Check.due("minute", x.minute(), 80);
        Check.due("each script is one change", x.undoCount(), 2);
    }

    private static void repeatDoesNotCount() {
        Check.due("executed", Bound.script("repeat 20 (); repeat 20 (repeat 20 (););", 0).minute(), 0);
        Check.due("executed", Bound.script("repeat 2 (repeat 20 (wait 1;););", 40).minute(), 40);
        Check.due("executed", Bound.script("repeat 20 (repeat 1 (wait 1;); repeat 1 (wait 1;););", 40).minute(), 40);
        Check.due("executed", Bound.script("repeat 1(wait 1;);".repeat(15), 15).minute(), 15);
    }

    private static void staysInEffect() {
        BarberParliament x = Bound.script("propose ada 8; ask ben for 0; rank heaviest; wait 2; vote 9; wait 9;", 4);
        Check.due("motions, ranking, minute, speaker", x.motionCount() * 1000 + x.ranking() * 100 + x.minute() * 10 + x.speaker(0), 1121);
        Check.due("undoCount", x.undoCount(), 1);
        Check.due("undo", x.undo(), 0);
        Check.due("all of it is undone", x.motionCount() * 1000 + x.ranking() * 100 + x.minute() * 10 + x.requestCount(), 0);
    }

    private static void noChange() {
        BarberParliament x = new BarberParliament();
        for (int change = 1; change <= 8; change++) {
            x.advance(change);
        }
        String[] errors = {"wait 0;", "wait 1; wait 1", "sharpen zed;", "x", waits(31)};
        for (String text : errors) {
            Check.due("runScript of " + text, Check.run(x, text), NONE);
            Check.due("undoCount", x.undoCount(), 8);
        }
        Check.due("minute", x.minute(), 36);
        for (int left = 7; left >= 0; left--) {
            Check.due("undo", x.undo(), left);
        }
        Check.due("none of the eight changes was forgotten", x.minute(), 0);
    }
}
