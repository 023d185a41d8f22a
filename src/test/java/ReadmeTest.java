/** The examples of README.md, line by line, with what they answer. .ci/run looks that each line of them stands here. */
public final class ReadmeTest {
    public static void main(String[] args) {
        calls();
        setups();
        scripts();
        output();
        undo();
        slots();
        Check.end();
    }

    static void write(BarberParliament x, String text) {
        int[] four = new int[5];
        for (int from = 0; from < text.length(); from += 20) {
            for (int i = from; i < from + 20; i++) {
                int sign = i < text.length() ? text.charAt(i) : 0;
                four[(i - from) / 4] = four[(i - from) / 4] << 8 | sign;
            }
            x.append(four[0], four[1], four[2], four[3], four[4]);
        }
    }

    static String output(BarberParliament x, int length) {
        StringBuilder text = new StringBuilder();
        for (int i = 0; i < length; i++) {
            text.append((char) x.outputByte(i));
        }
        return text.toString();
    }

    private static void calls() {
        BarberParliament x = new BarberParliament();
        int motion = x.propose(0, 8);
        x.request(1, motion, true);
        x.request(2, motion, false);
        x.advance(1);
        x.rebut(0, x.chairOf(2));
        x.advance(3);
        boolean isPassed = x.vote(motion);
        Check.due("motion", motion, 0);
        Check.yes("isPassed", isPassed);
        Check.due("chairOf", x.chairOf(2), BarberParliament.NONE);
        Check.noSuch(x, "weight(5)", () -> x.weight(5));
        Check.badState(x, "vote(0)", () -> x.vote(0) ? 1 : 0);
    }

    private static void setups() {
        BarberParliament x = new BarberParliament();
        write(x, "house 1 2 4 20 10 1 2; member kim 3 5 9; member lea 2 12 4;");
        int error = x.load();
        Check.due("error", error, 0);
        Check.due("memberCount", x.memberCount(), 2);
        write(x, "house 1 2 4 20 10 1 2; member kim 3 55 9;");
        error = x.load();
        int position = x.errorPosition();
        Check.due("error", error, BarberParliament.OUT_OF_RANGE);
        Check.due("errorCode", x.errorCode(), BarberParliament.OUT_OF_RANGE);
        Check.due("position", position, 36);
        Check.due("memberCount of the chamber that stays", x.memberCount(), 2);
        Check.due("the bytes in the buffer", x.append(0, 0, 0, 0, 0), 0);
        write(x, "lea");
        int lea = x.findMember();
        x.truncate(0);
        Check.due("lea", lea, 1);
        Check.due("the bytes in the buffer", x.append(0, 0, 0, 0, 0), 0);
    }

    private static void scripts() {
        BarberParliament x = new BarberParliament();
        write(x, "propose ada 8; ask ben for 0; repeat 2 (wait 1;); sharpen ada; wait 9;");
        int executed = x.runScript();
        Check.due("executed", executed, 4);
        Check.due("errorCode", x.errorCode(), 0);
        Check.due("minute", x.minute(), 2);
        write(x, "wait 1; sharpen zoe;");
        executed = x.runScript();
        Check.due("executed", executed, BarberParliament.NONE);
        Check.due("errorCode", x.errorCode(), BarberParliament.WRONG_NAME);
        Check.due("errorPosition", x.errorPosition(), 16);
        Check.due("minute", x.minute(), 2);
        Check.due("undoCount", x.undoCount(), 1);
    }

    private static void output() {
        BarberParliament x = new BarberParliament();
        write(x, "propose ada 8; ask cai against 0; wait 1; rebut ada 0; ask ben for 0; ask eli for 0;");
        x.runScript();
        String chairs = output(x, x.writeChairs());
        String requests = output(x, x.writeRequests());
        Check.due("chairs", chairs, "cai-0!:3 .");
        Check.due("requests", requests, "ben+0,eli+0");
        Check.due("outputByte behind the last", x.outputByte(11), BarberParliament.NONE);
    }

    private static void undo() {
        BarberParliament x = new BarberParliament();
        x.propose(0, 8);
        x.advance(5);
        int left = x.undo();
        Check.due("left", left, 1);
        Check.due("minute", x.minute(), 0);
        Check.due("motionCount", x.motionCount(), 1);
    }

    private static void slots() {
        BarberParliament x = new BarberParliament();
        x.advance(5);
        x.save(1);
        x.advance(60);
        int minute = x.restore(1);
        Check.due("minute", minute, 5);
        Check.due("undoCount", x.undoCount(), 0);
        Check.badState(x, "undo()", () -> x.undo());
        Check.noElement(x, "restore(0)", () -> x.restore(0));
    }
}
