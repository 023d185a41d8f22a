import java.util.NoSuchElementException;
import java.util.function.Supplier;
import java.util.function.ToLongFunction;

/**
 * "Terms", the part "Changes and undo": a call that throws changes nothing, and of several exceptions the one that is
 * listed first is thrown. Each call that can be refused is refused for each of its reasons, and then the object is held
 * against one that was made alike and spared the call: what it tells, its text, its output, all that undo brings back,
 * and both slots.
 */
public final class RefusalsTest {
    private static final Class<?> NO_SUCH = IndexOutOfBoundsException.class;
    private static final Class<?> ARGUMENT = IllegalArgumentException.class;
    private static final Class<?> STATE = IllegalStateException.class;
    private static final Class<?> NO_ELEMENT = NoSuchElementException.class;
    private static final int MOST = Bound.MOST;
    private static final int LEAST = Bound.LEAST;
    private static final int[] BESIDE_MEMBERS = {-1, 5, 12, LEAST, MOST};
    private static final int[] BESIDE_MOTIONS = {-1, 3, 16, LEAST, MOST};
    private static final int[] BESIDE_CHAIRS = {-1, 2, 4, LEAST, MOST};
    private static final int[] BESIDE_RANKINGS = {-1, 4, LEAST, MOST};
    private static final int[] BESIDE_SLOTS = {-1, 2, LEAST, MOST};

    public static void main(String[] args) {
        texts();
        members();
        motions();
        chairs();
        changes();
        changesInOtherStates();
        orderOfExceptions();
        undoAndSlots();
        Check.end();
    }

    private static void refused(String promise, String call, Class<?> want, Supplier<BarberParliament> made, ToLongFunction<BarberParliament> refused) {
        Check.holds(promise + ", refused: " + call, () -> {
            BarberParliament x = made.get();
            Check.due("it throws", Check.thrownBy(() -> refused.applyAsLong(x)), want.getName());
            Check.due("what is left", whole(x), whole(made.get()));
        });
    }

    /** Everything that can be told of an object. It is of no use afterwards. */
    private static String whole(BarberParliament x) {
        StringBuilder text = new StringBuilder(Check.state(x));
        text.append("; error ").append(x.errorCode()).append(' ').append(x.errorPosition());
        text.append(" output ").append(Check.output(x)).append(" found ").append(x.findMember());
        for (int left = x.undoCount(); left > 0; left--) {
            text.append("\n  undone ").append(x.undo()).append(' ').append(brief(x));
        }
        for (int slot = 0; slot < 2; slot++) {
            int restored = slot;
            boolean isEmpty = !Check.thrownBy(() -> x.restore(restored)).equals("nothing");
            text.append("\n  slot ").append(isEmpty ? "empty" : brief(x));
        }
        text.append("\n  text ").append(Bound.length(x)).append(' ').append(x.runScript());
        text.append(' ').append(x.errorCode()).append(' ').append(x.errorPosition()).append(' ').append(brief(x));
        return text.toString();
    }

    private static String brief(BarberParliament x) {
        StringBuilder text = new StringBuilder();
        int[] told = {x.minute(), x.ranking(), x.motionCount(), x.requestCount(), x.freeMirrors(), x.tips(), x.voteCount(),
            x.rebuttalCount(), x.writeChairs(), x.purse(0), x.sharpness(0)};
        for (int number : told) {
            text.append(number).append(' ');
        }
        return text.toString();
    }

    /**
     * Ten changes, so that eight can be undone; two speeches, one of them rebutted, and a request; a withdrawn motion and
     * a dry one; a filled slot and an empty one; an error, an output, and a text that is a script.
     */
    private static BarberParliament busy() {
        BarberParliament x = new BarberParliament();
        x.propose(0, 8);
        x.propose(1, 4);
        x.withdraw(1);
        x.request(2, 0, false);
        x.request(1, 0, true);
        x.advance(1);
        x.rebut(0, 0);
        x.request(3, 0, true);
        x.setRanking(3);
        x.save(0);
        x.propose(4, 6);
        Check.write(x, "house 2 x");
        x.load();
        x.writeChairs();
        Check.write(x, "propose eli 7; wait 2;");
        return x;
    }

    /** A member's name as the text, nothing to undo, nobody speaks, and both slots are filled. */
    private static BarberParliament calm() {
        BarberParliament x = new BarberParliament();
        x.advance(3);
        x.save(1);
        x.advance(4);
        x.save(0);
        x.restore(0);
        Check.write(x, "ada");
        return x;
    }

    private static BarberParliament filled(int bytes) {
        BarberParliament x = busy();
        Check.write(x, " ".repeat(bytes - Bound.length(x)));
        Check.due("the bytes", Bound.length(x), bytes);
        return x;
    }

    private static void texts() {
        refused("Promise 2", "append of a byte to 700", STATE, () -> filled(700), x -> x.append(0, 0, 0, 0, 7));
        refused("Promise 2", "append of two bytes to 699", STATE, () -> filled(699), x -> x.append(0, 0x01000001, 0, 0, 0));
        refused("Promise 2", "append of twenty bytes to 681", STATE, () -> filled(681), x -> x.append(-1, -1, -1, -1, -1));
        refused("Promise 2", "append of twenty bytes to 700", STATE, () -> filled(700), x -> x.append(-1, -1, -1, -1, -1));
        for (int length : new int[] {-1, 23, 700, LEAST, MOST}) {
            refused("Promise 3", "truncate(" + length + ") of 22", ARGUMENT, RefusalsTest::busy, x -> x.truncate(length));
        }
    }

    private static void members() {
        for (int m : BESIDE_MEMBERS) {
            ofMember("Promise 10", "weight", m, x -> x.weight(m));
            ofMember("Promise 11", "purse", m, x -> x.purse(m));
            ofMember("Promise 12", "sharpness", m, x -> x.sharpness(m));
            ofMember("Promise 13", "speechesOf", m, x -> x.speechesOf(m));
            ofMember("Promise 14", "leaning to motion 0 of", m, x -> x.leaning(m, 0));
            ofMember("Promise 15", "chairOf", m, x -> x.chairOf(m));
            ofMember("Promise 16", "placeInList", m, x -> x.placeInList(m));
            ofMember("Promise 41", "weightShare", m, x -> (long) x.weightShare(m));
            ofMember("Promise 43", "minutesUntilSpeech", m, x -> x.minutesUntilSpeech(m));
            ofMember("Promise 46", "propose of position 8 by", m, x -> x.propose(m, 8));
            ofMember("Promise 47", "request about motion 0 of", m, x -> x.request(m, 0, true));
            ofMember("Promise 48", "rebut at chair 1 by", m, x -> x.rebut(m, 1));
            ofMember("Promise 52", "sharpen", m, x -> x.sharpen(m));
        }
    }

    private static void ofMember(String promise, String call, int member, ToLongFunction<BarberParliament> refused) {
        refused(promise, call + " member " + member, NO_SUCH, RefusalsTest::busy, refused);
    }

    private static void motions() {
        for (int m : BESIDE_MOTIONS) {
            ofMotion("Promise 14", "leaning of member 0 to", m, x -> x.leaning(0, m));
            ofMotion("Promise 18", "proposer", m, x -> x.proposer(m));
            ofMotion("Promise 19", "motionState", m, x -> x.motionState(m));
            ofMotion("Promise 20", "lather", m, x -> x.lather(m));
            ofMotion("Promise 21", "weightFor", m, x -> x.weightFor(m));
            ofMotion("Promise 22", "weightAgainst", m, x -> x.weightAgainst(m));
            ofMotion("Promise 23", "voterCount", m, x -> x.voterCount(m));
            ofMotion("Promise 24", "obstacle", m, x -> x.obstacle(m));
            ofMotion("Promise 25", "wouldPass", m, x -> x.wouldPass(m) ? 1 : 0);
            ofMotion("Promise 26", "decisiveVoter", m, x -> x.decisiveVoter(m));
            ofMotion("Promise 40", "meanLeaning", m, x -> (long) x.meanLeaning(m));
            ofMotion("Promise 44", "latherAfter 7 minutes", m, x -> x.latherAfter(m, 7));
            ofMotion("Promise 45", "minutesUntilVote", m, x -> x.minutesUntilVote(m));
            ofMotion("Promise 47", "request of member 0 about", m, x -> x.request(0, m, true));
            ofMotion("Promise 50", "vote", m, x -> x.vote(m) ? 1 : 0);
            ofMotion("Promise 51", "withdraw", m, x -> x.withdraw(m));
        }
        for (int minutes : new int[] {-1, 301, LEAST, MOST}) {
            refused("Promise 44", "latherAfter(0, " + minutes + ")", ARGUMENT, RefusalsTest::busy, x -> x.latherAfter(0, minutes));
        }
    }

    private static void ofMotion(String promise, String call, int motion, ToLongFunction<BarberParliament> refused) {
        refused(promise, call + " motion " + motion, NO_SUCH, RefusalsTest::busy, refused);
        refused(promise, call + " motion " + motion + " when there is none", NO_SUCH, RefusalsTest::calm, refused);
    }

    private static void chairs() {
        for (int c : BESIDE_CHAIRS) {
            refused("Promise 32", "speaker of chair " + c, NO_SUCH, RefusalsTest::busy, x -> x.speaker(c));
            refused("Promise 33", "speechMotion of chair " + c, NO_SUCH, RefusalsTest::busy, x -> x.speechMotion(c));
            refused("Promise 34", "remainingTime of chair " + c, NO_SUCH, RefusalsTest::busy, x -> x.remainingTime(c));
            refused("Promise 35", "isRebutted of chair " + c, NO_SUCH, RefusalsTest::busy, x -> x.isRebutted(c) ? 1 : 0);
            refused("Promise 48", "rebut at chair " + c, NO_SUCH, RefusalsTest::busy, x -> x.rebut(0, c));
        }
        for (int chair = 0; chair < 2; chair++) {
            int free = chair;
            refused("Promise 33", "speechMotion of the free chair " + chair, NO_ELEMENT, RefusalsTest::calm, x -> x.speechMotion(free));
        }
        for (int r : BESIDE_RANKINGS) {
            refused("Promise 36", "firstBy(" + r + ")", NO_SUCH, RefusalsTest::busy, x -> x.firstBy(r));
            refused("Promise 36", "firstBy(" + r + ") of an empty list", NO_SUCH, RefusalsTest::calm, x -> x.firstBy(r));
            refused("Promise 53", "setRanking(" + r + ")", NO_SUCH, RefusalsTest::busy, x -> x.setRanking(r));
        }
    }

    /** Of busy(): motion 0 has speeches of cai, rebutted, and ben; dov waits; motion 1 is withdrawn; motion 2 is dry. */
    private static void changes() {
        for (int position : new int[] {-1, 21, LEAST, MOST}) {
            refused("Promise 46", "propose(0, " + position + ")", ARGUMENT, RefusalsTest::busy, x -> x.propose(0, position));
        }
        refused("Promise 47", "request about a withdrawn motion", STATE, RefusalsTest::busy, x -> x.request(0, 1, true));
        refused("Promise 47", "request of a member who waits", STATE, RefusalsTest::busy, x -> x.request(3, 0, true));
        refused("Promise 47", "request of a member who waits, about another motion", STATE, RefusalsTest::busy, x -> x.request(3, 2, false));
        refused("Promise 47", "request of a member who speaks", STATE, RefusalsTest::busy, x -> x.request(2, 0, false));
        refused("Promise 47", "request of a member who speaks, about another motion", STATE, RefusalsTest::busy, x -> x.request(1, 2, true));
        refused("Promise 48", "rebut of a free chair", STATE, RefusalsTest::calm, x -> x.rebut(0, 0));
        refused("Promise 48", "rebut of a rebutted speech", STATE, RefusalsTest::busy, x -> x.rebut(4, 0));
        for (int minutes : new int[] {0, -1, 61, LEAST, MOST}) {
            refused("Promise 49", "advance(" + minutes + ")", ARGUMENT, RefusalsTest::busy, x -> x.advance(minutes));
        }
        refused("Promise 50", "vote on a motion that is too dry", STATE, RefusalsTest::busy, x -> x.vote(2) ? 1 : 0);
        refused("Promise 50", "vote on a withdrawn motion", STATE, RefusalsTest::busy, x -> x.vote(1) ? 1 : 0);
        refused("Promise 51", "withdraw of a withdrawn motion", STATE, RefusalsTest::busy, x -> x.withdraw(1));
        refused("Promise 51", "withdraw while a speech about it is running", STATE, RefusalsTest::busy, x -> x.withdraw(0));
        refused("Promise 52", "sharpen of a sharp razor", STATE, RefusalsTest::busy, x -> x.sharpen(0));
    }

    /** A chamber with a full history, a filled slot and a text, made by a script of its own. */
    private static BarberParliament after(String setup, String script) {
        BarberParliament x = Check.house(setup);
        for (int change = 0; change < 8; change++) {
            x.setRanking(change % 4);
        }
        x.save(1);
        Check.run(x, script);
        x.writeChairs();
        Check.write(x, "wait 1;");
        return x;
    }

    private static void changesInOtherStates() {
        refused("Promise 46", "propose of a 17th", STATE, () -> Bound.sixteenMotions(), x -> x.propose(0, 8));
        String pair = "house 1 0 3 0 30 0 0; member a 9 5 2; member b 1 20 9;";
        refused("Promise 47", "request about a passed motion", STATE, () -> after(pair, "propose a 5; vote 0;"), x -> x.request(0, 0, true));
        refused("Promise 47", "request about a rejected motion", STATE, () -> after(pair, "propose a 20; vote 0;"), x -> x.request(0, 0, true));
        refused("Promise 50", "vote on a passed motion", STATE, () -> after(pair, "propose a 5; vote 0;"), x -> x.vote(0) ? 1 : 0);
        refused("Promise 50", "vote on a rejected motion", STATE, () -> after(pair, "propose a 20; vote 0;"), x -> x.vote(0) ? 1 : 0);
        refused("Promise 51", "withdraw of a passed motion", STATE, () -> after(pair, "propose a 5; vote 0;"), x -> x.withdraw(0));
        refused("Promise 51", "withdraw of a rejected motion", STATE, () -> after(pair, "propose a 20; vote 0;"), x -> x.withdraw(0));
        refused("Promise 52", "sharpen for one coin", STATE, () -> after(pair, "propose a 5; vote 0;"), x -> x.sharpen(0));
        refused("Promise 52", "sharpen for no coin", STATE, () -> after(pair, "propose a 5; propose a 5; vote 0; vote 1;"), x -> x.sharpen(0));
        String speech = "propose a 5; ask a for 0; wait 1;";
        refused("Promise 50", "vote while a speech about it is running", STATE, () -> after(pair, speech), x -> x.vote(0) ? 1 : 0);
        refused("Promise 48", "rebut without a mirror", STATE, () -> after(pair, speech), x -> x.rebut(1, 0));
        String quorum = "house 1 0 3 0 30 0 3; member a 9 5 2; member b 1 20 9;";
        refused("Promise 50", "vote without a quorum", STATE, () -> after(quorum, "propose a 5;"), x -> x.vote(0) ? 1 : 0);
        String mirrors = "house 2 2 3 0 30 0 0; member a 9 5 2; member b 1 20 9; member c 1 10 9; member d 1 5 9;";
        String speeches = "propose a 5; ask a for 0; ask b against 0; wait 1;";
        refused("Promise 48", "rebut by the speaker", STATE, () -> after(mirrors, speeches), x -> x.rebut(0, 0));
        refused("Promise 48", "rebut by an opposed speaker", STATE, () -> after(mirrors, speeches), x -> x.rebut(1, 0));
        refused("Promise 48", "rebut by a speaker in favour", STATE, () -> after(mirrors, speeches), x -> x.rebut(0, 1));
        refused("Promise 48", "rebut of a speech for it by one in favour", STATE, () -> after(mirrors, speeches), x -> x.rebut(3, 0));
        refused("Promise 48", "rebut of a speech for it by the undecided", STATE, () -> after(mirrors, speeches), x -> x.rebut(2, 0));
        refused("Promise 48", "rebut of a speech against it by the undecided", STATE, () -> after(mirrors, speeches), x -> x.rebut(2, 1));
        String opposed = "propose b 20; ask a for 0; ask b against 0; wait 1;";
        refused("Promise 48", "rebut of a speech against it by one opposed", STATE, () -> after(mirrors, opposed), x -> x.rebut(3, 1));
        refused("Promise 49", "advance beyond minute 9999", STATE, RefusalsTest::late, x -> x.advance(1));
        refused("Promise 49", "advance by 60 beyond minute 9999", STATE, RefusalsTest::late, x -> x.advance(60));
    }

    private static BarberParliament late() {
        BarberParliament x = new BarberParliament();
        Bound.passToTheEnd(x);
        x.setRanking(2);
        x.propose(0, 8);
        x.request(0, 0, true);
        x.save(1);
        return x;
    }

    private static void orderOfExceptions() {
        String first = "IndexOutOfBoundsException before all others";
        refused("Promise 33, " + first, "speechMotion(2) of free chairs", NO_SUCH, RefusalsTest::calm, x -> x.speechMotion(2));
        refused("Promise 44, " + first, "latherAfter(3, 301)", NO_SUCH, RefusalsTest::busy, x -> x.latherAfter(3, 301));
        refused("Promise 44, " + first, "latherAfter(-1, -1)", NO_SUCH, RefusalsTest::busy, x -> x.latherAfter(-1, -1));
        refused("Promise 46, " + first, "propose(5, 21)", NO_SUCH, RefusalsTest::busy, x -> x.propose(5, 21));
        refused("Promise 46, " + first, "propose(-1, -1) of a 17th", NO_SUCH, Bound::sixteenMotions, x -> x.propose(-1, -1));
        refused("Promise 46, " + first, "propose(5, 8) of a 17th", NO_SUCH, Bound::sixteenMotions, x -> x.propose(5, 8));
        refused("Promise 46, IllegalArgumentException before IllegalStateException", "propose(0, 21) of a 17th", ARGUMENT,
            Bound::sixteenMotions, x -> x.propose(0, 21));
        refused("Promise 47, " + first, "request(5, 1, true) about a withdrawn motion", NO_SUCH, RefusalsTest::busy, x -> x.request(5, 1, true));
        refused("Promise 47, " + first, "request(3, 3, true) of one who waits", NO_SUCH, RefusalsTest::busy, x -> x.request(3, 3, true));
        refused("Promise 47, " + first, "request(2, -1, true) of one who speaks", NO_SUCH, RefusalsTest::busy, x -> x.request(2, -1, true));
        refused("Promise 48, " + first, "rebut(5, 0) of a rebutted speech", NO_SUCH, RefusalsTest::busy, x -> x.rebut(5, 0));
        refused("Promise 48, " + first, "rebut(1, 2) by one who speaks", NO_SUCH, RefusalsTest::busy, x -> x.rebut(1, 2));
        refused("Promise 48, " + first, "rebut(5, 0) of a free chair", NO_SUCH, RefusalsTest::calm, x -> x.rebut(5, 0));
        refused("Promise 48, " + first, "rebut(0, 2) when all chairs are free", NO_SUCH, RefusalsTest::calm, x -> x.rebut(0, 2));
        refused("Promise 49, IllegalArgumentException before IllegalStateException", "advance(61) in minute 9999", ARGUMENT,
            RefusalsTest::late, x -> x.advance(61));
        refused("Promise 49, IllegalArgumentException before IllegalStateException", "advance(most) in minute 9999", ARGUMENT,
            RefusalsTest::late, x -> x.advance(MOST));
        refused("Promise 60, " + first, "restore(2) when both slots are empty", NO_SUCH, BarberParliament::new, x -> x.restore(2));
        refused("Promise 60, " + first, "restore(-1) when both slots are empty", NO_SUCH, BarberParliament::new, x -> x.restore(-1));
    }

    private static void undoAndSlots() {
        refused("Promise 58", "undo of a new object", STATE, BarberParliament::new, x -> x.undo());
        refused("Promise 58", "undo after restore", STATE, RefusalsTest::calm, x -> x.undo());
        for (int slot : BESIDE_SLOTS) {
            refused("Promise 59", "save(" + slot + ")", NO_SUCH, RefusalsTest::busy, x -> x.save(slot));
            refused("Promise 60", "restore(" + slot + ")", NO_SUCH, RefusalsTest::busy, x -> x.restore(slot));
        }
        refused("Promise 60", "restore of an empty slot", NO_ELEMENT, RefusalsTest::busy, x -> x.restore(1));
        refused("Promise 60", "restore of an empty slot of a new object", NO_ELEMENT, BarberParliament::new, x -> x.restore(0));
    }
}
