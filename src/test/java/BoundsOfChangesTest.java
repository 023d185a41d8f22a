import java.util.function.ToLongFunction;

/** The boundary cases of "Terms", the part "Changes and undo", and of promises 46 to 60. */
public final class BoundsOfChangesTest {
    private static final String TERMS = "Terms, Changes and undo: ";
    private static final String HEAD = Bound.HEAD;
    private static final int NONE = Bound.NONE;
    private static final int MOST = Bound.MOST;
    private static final int LEAST = Bound.LEAST;

    public static void main(String[] args) {
        changes();
        output();
        undo();
        Check.end();
    }

    private static void changes() {
        Check.holds("Promise 46: the position of the motion, 0 to 20", BoundsOfChangesTest::proposedPositions);
        Check.holds("Promise 46: the number of the motion, 0 to 15", BoundsOfChangesTest::numbersOfMotions);
        Check.holds("Promise 47: the number of earlier requests in the list, 0 to 11", BoundsOfChangesTest::earlierRequests);
        Check.holds("Promise 47: whatever the leaning and the razor of the member are", BoundsOfChangesTest::whoMayRequest);
        Check.holds("Promise 48: the number of mirrors that are free afterwards, down to 0", BoundsOfChangesTest::mirrorsAfterwards);
        Check.holds("Promise 48: opposed to the motion of a speech for it", BoundsOfChangesTest::rebutsOfASpeechForIt);
        Check.holds("Promise 48: in favour of the motion of a speech against it", BoundsOfChangesTest::rebutsOfASpeechAgainstIt);
        Check.holds("Promise 48: the member gives a speech, from any chair", BoundsOfChangesTest::speakersDoNotRebut);
        Check.holds("Promise 48: a request and a blunt razor do not hinder", BoundsOfChangesTest::waitingMembersRebut);
        Check.holds("Promise 49: minutes 1 to 60", BoundsOfChangesTest::minutesToPass);
        Check.holds("Promise 49: IllegalStateException if the minute would be greater than 9999", BoundsOfChangesTest::lastMinute);
        Check.holds("Promise 49: the number of speeches that end, from 0 on", BoundsOfChangesTest::endedSpeeches);
        Check.holds("Promise 50: true if it is passed, false if it is rejected", BoundsOfChangesTest::voteAnswers);
        Check.holds("Promise 51: the number of removed requests, 0 to 12", BoundsOfChangesTest::removedRequests);
        Check.holds("Promise 51: a motion that is not put to the vote", BoundsOfChangesTest::withdrawsAtOnce);
        Check.holds("Promise 52: sharpness 0 to 4, and 5 afterwards", BoundsOfChangesTest::everySharpness);
        Check.holds("Promise 52: the number of coins in the purse afterwards, from 0", BoundsOfChangesTest::coinsAfterwards);
        Check.holds("Promise 53: the previous ranking, the same one too", BoundsOfChangesTest::previousRankings);
    }

    private static void proposedPositions() {
        for (int position = 0; position <= 20; position++) {
            BarberParliament x = new BarberParliament();
            Check.due("propose", x.propose(4, position), 0);
            Check.due("leaning of eli, at 6", x.leaning(4, 0), 5 - Math.abs(6 - position));
        }
    }

    private static void numbersOfMotions() {
        BarberParliament x = Bound.crowd(HEAD, 12);
        for (int motion = 0; motion < 16; motion++) {
            Check.due("propose", x.propose(motion % 12, 5), motion);
        }
        x.undo();
        Check.due("propose after undo", x.propose(11, 5), 15);
    }

    private static void earlierRequests() {
        BarberParliament x = Bound.crowd(HEAD, 12);
        x.propose(0, 5);
        for (int member = 0; member < 12; member++) {
            Check.due("request", x.request(member, 0, true), member);
        }
        x.advance(1);
        x.advance(1);
        Check.due("request of the first speaker behind the ten that wait", x.request(0, 0, true), 10);
        x.advance(12);
        Check.due("request when nobody waits", x.request(5, 0, true), 0);
    }

    private static void whoMayRequest() {
        BarberParliament x = Check.house(HEAD + "member a 9 5 0; member b 1 20 0; member c 1 10 0;");
        Check.runAll(x, "repeat 6 (propose a 5;); vote 0; vote 1; vote 2; vote 3; vote 4;", 11);
        Check.due("a blunt razor", x.request(0, 5, true), 0);
        Check.due("for it although opposed", x.request(1, 5, true), 1);
        Check.due("against it although undecided", x.request(2, 5, false), 2);
    }

    private static void mirrorsAfterwards() {
        BarberParliament x = Check.house("house 4 3 3 0 30 0 0;" + Bound.members(4, "1 5 0") + "member z 1 20 0;");
        Check.runAll(x, "propose a 5; ask a for 0; ask b for 0; ask c for 0; ask d for 0; wait 1;", 6);
        Check.due("rebut", x.rebut(4, 3), 2);
        Check.due("rebut", x.rebut(4, 0), 1);
        Check.due("rebut", x.rebut(4, 2), 0);
        Check.badState(x, "rebut without a mirror", () -> x.rebut(4, 1));
    }

    /** The speech of a from chair 0 is rebutted by a member with this leaning, or is not. */
    private static void rebuttal(String side, int position, int leaning, boolean isAllowed) {
        BarberParliament x = Check.house("house 1 1 3 0 30 0 0; member a 1 0 0; member b 1 " + position + " 0;");
        Check.runAll(x, "propose a 0; ask a " + side + " 0; wait 1;", 3);
        Check.due("leaning", x.leaning(1, 0), leaning);
        if (isAllowed) {
            Check.due("rebut with a leaning of " + leaning, x.rebut(1, 0), 0);
        } else {
            Check.badState(x, "rebut with a leaning of " + leaning, () -> x.rebut(1, 0));
        }
    }

    private static void rebutsOfASpeechForIt() {
        rebuttal("for", 0, 5, false);
        rebuttal("for", 4, 1, false);
        rebuttal("for", 5, 0, false);
        rebuttal("for", 6, -1, true);
        rebuttal("for", 20, -15, true);
    }

    private static void rebutsOfASpeechAgainstIt() {
        rebuttal("against", 0, 5, true);
        rebuttal("against", 4, 1, true);
        rebuttal("against", 5, 0, false);
        rebuttal("against", 6, -1, false);
        rebuttal("against", 20, -15, false);
    }

    private static void speakersDoNotRebut() {
        BarberParliament x = Check.house("house 4 5 3 0 30 0 0;" + Bound.members(2, "1 5 0") + "member y 1 20 0; member z 1 20 0;");
        Check.runAll(x, "propose a 5; ask a for 0; ask b for 0; ask y against 0; ask z against 0; wait 1;", 6);
        Check.badState(x, "rebut from the last chair", () -> x.rebut(3, 0));
        Check.badState(x, "rebut from the third chair", () -> x.rebut(2, 1));
        Check.badState(x, "rebut from the first chair", () -> x.rebut(0, 3));
        Check.badState(x, "rebut of one's own speech", () -> x.rebut(2, 2));
        Check.runAll(x, "wait 3; ask a for 0; wait 1;", 3);
        Check.due("rebut after the speech", x.rebut(3, 0), 4);
    }

    private static void waitingMembersRebut() {
        BarberParliament x = Check.house("house 1 5 3 0 30 0 0; member a 1 5 0; member z 9 20 0;");
        Check.runAll(x, "repeat 6 (propose a 5;); vote 0; vote 1; vote 2; vote 3; vote 4; ask a for 5; ask z for 5; wait 1;", 14);
        Check.due("sharpness, place in the list", x.sharpness(1) * 10 + x.placeInList(1), 0);
        Check.due("rebut", x.rebut(1, 0), 4);
    }

    private static void minutesToPass() {
        for (int minutes : new int[] {1, 2, 59, 60}) {
            BarberParliament x = new BarberParliament();
            Check.due("advance(" + minutes + ")", x.advance(minutes), 0);
            Check.due("minute", x.minute(), minutes);
        }
        BarberParliament x = new BarberParliament();
        for (int minutes : new int[] {0, 61, -1, LEAST, MOST, 256 + 1, 65536 + 1, MOST - 9998}) {
            Check.badArgument(x, "advance(" + minutes + ")", () -> x.advance(minutes));
        }
    }

    private static void lastMinute() {
        BarberParliament x = new BarberParliament();
        Bound.passToTheEnd(x);
        Check.badState(x, "advance(1) in minute 9999", () -> x.advance(1));
        Check.badState(x, "advance(60) in minute 9999", () -> x.advance(60));
        Check.badArgument(x, "advance(0) in minute 9999", () -> x.advance(0));
        Check.badArgument(x, "advance(61) in minute 9999", () -> x.advance(61));
        Check.badArgument(x, "advance(most) in minute 9999", () -> x.advance(MOST));
        x.undo();
        Check.runAll(x, "repeat 6 (wait 60;); wait 9;", 7);
        Check.badState(x, "advance(31) in minute 9969", () -> x.advance(31));
        Check.due("advance(30) in minute 9969", x.advance(30), 0);
        x.undo();
        Check.due("advance(29) in minute 9969", x.advance(29), 0);
        Check.badState(x, "advance(2) in minute 9998", () -> x.advance(2));
        Check.due("advance(1) in minute 9998", x.advance(1), 0);
        Check.due("minute", x.minute(), 9999);
    }

    private static void endedSpeeches() {
        BarberParliament x = Bound.crowd("house 4 0 1 0 30 0 0;", 12);
        Check.due("none", x.advance(1), 0);
        x.propose(0, 5);
        for (int member = 0; member < 12; member++) {
            x.request(member, 0, true);
        }
        Check.due("when they start", x.advance(1), 0);
        Check.due("four in a minute", x.advance(1), 4);
        Check.due("the other eight", x.advance(60), 8);
        Check.due("none", x.advance(60), 0);
    }

    private static void voteAnswers() {
        BarberParliament x = Check.house(HEAD + "member a 5 5 0; member b 4 20 0; member c 1 0 0;");
        Check.runAll(x, "propose a 5; propose a 6; propose a 10;", 3);
        Check.yes("5 to 4", x.vote(0));
        Check.no("5 to 5", x.vote(1));
        Check.no("0 to 5", x.vote(2));
        Check.due("states", x.motionState(0) * 100 + x.motionState(1) * 10 + x.motionState(2), 122);
    }

    private static void removedRequests() {
        BarberParliament x = Bound.crowd(HEAD, 12);
        Check.runAll(x, "propose a 5; propose a 5; propose a 5;", 3);
        for (int member = 0; member < 12; member++) {
            x.request(member, member == 0 || member == 11 ? 1 : 2, true);
        }
        Check.due("none", x.withdraw(0), 0);
        Check.due("the first and the last", x.withdraw(1), 2);
        Check.due("the rest", x.withdraw(2), 10);
        x.undo();
        x.undo();
        x.undo();
        Check.due("the list", x.requestCount(), 12);
        BarberParliament y = Bound.crowd(HEAD, 12);
        y.propose(0, 5);
        for (int member = 0; member < 12; member++) {
            y.request(member, 0, true);
        }
        Check.due("all", y.withdraw(0), 12);
    }

    private static void withdrawsAtOnce() {
        BarberParliament x = Check.house("house 1 0 3 0 30 9 12; member a 1 5 0;");
        x.propose(0, 5);
        Check.due("withdraw although it is too dry and has no quorum", x.withdraw(0), 0);
        Check.due("no vote", x.voteCount() * 10 + x.sharpness(0), 5);
    }

    private static void everySharpness() {
        for (int votes = 1; votes <= 5; votes++) {
            BarberParliament x = Check.house(HEAD + "member a 9 20 9; member b 1 5 9;");
            x.propose(0, 20);
            for (int motion = 1; motion <= votes; motion++) {
                x.propose(0, 20);
                x.vote(motion);
            }
            Check.due("sharpness before", x.sharpness(1), 5 - votes);
            Check.due("sharpen", x.sharpen(1), 7);
            Check.due("sharpness afterwards", x.sharpness(1), 5);
            Check.badState(x, "sharpen of a sharp razor", () -> x.sharpen(1));
        }
    }

    private static void coinsAfterwards() {
        int[] purses = {0, 1, 2, 3, 99};
        for (int purse : purses) {
            // b loses the vote and pays no tip.
            BarberParliament x = Check.house(HEAD + "member a 9 20 9; member b 1 5 " + purse + ";");
            Check.runAll(x, "propose a 20; vote 0;", 2);
            if (purse < 2) {
                Check.badState(x, "sharpen for " + purse + " coins", () -> x.sharpen(1));
                Check.due("sharpness", x.sharpness(1), 4);
            } else {
                Check.due("sharpen for " + purse + " coins", x.sharpen(1), purse - 2);
                Check.due("purse", x.purse(1), purse - 2);
            }
        }
    }

    private static void previousRankings() {
        BarberParliament x = new BarberParliament();
        int previous = 0;
        for (int ranking : new int[] {0, 3, 3, 0, 1, 2, 3, 2, 1, 0}) {
            Check.due("setRanking", x.setRanking(ranking), previous);
            Check.due("ranking", x.ranking(), ranking);
            previous = ranking;
        }
    }

    // ---- output

    private static void output() {
        Check.holds("Promise 54: a free chair is written as a dot", BoundsOfChangesTest::freeChairs);
        Check.holds("Promise 54: a space separates two chairs, one chair has none", BoundsOfChangesTest::separatedChairs);
        Check.holds("Promise 54: numbers of one and of two digits", BoundsOfChangesTest::longNumbers);
        Check.holds("Promise 54: an exclamation mark if the speech is rebutted", BoundsOfChangesTest::exclamationMark);
        Check.holds("Promise 54: the longest output", BoundsOfChangesTest::longestChairs);
        Check.holds("Promise 55: an empty list", BoundsOfChangesTest::emptyList);
        Check.holds("Promise 55: a comma separates two requests, one request has none", BoundsOfChangesTest::separatedRequests);
        Check.holds("Promise 55: the longest output", BoundsOfChangesTest::longestList);
        Check.holds("Promises 54 and 55: the output is replaced, by a shorter one too", BoundsOfChangesTest::replaced);
        Check.holds("Promise 56: the index of the byte, from 0", BoundsOfChangesTest::bytes);
        Check.holds("Promise 56: NONE if the output has no byte with this index", BoundsOfChangesTest::noByte);
    }

    private static void chairs(BarberParliament x, String due) {
        Check.due("writeChairs", x.writeChairs(), due.length());
        Check.due("the output", Check.output(x), due);
    }

    private static void requests(BarberParliament x, String due) {
        Check.due("writeRequests", x.writeRequests(), due.length());
        Check.due("the output", Check.output(x), due);
    }

    private static void freeChairs() {
        String[] due = {".", ". .", ". . .", ". . . ."};
        for (int chairs = 1; chairs <= 4; chairs++) {
            chairs(Bound.crowd("house " + chairs + " 0 1 0 2 0 0;", 1), due[chairs - 1]);
        }
    }

    private static void separatedChairs() {
        BarberParliament x = Bound.crowd("house 1 0 1 0 2 0 0;", 3);
        Check.runAll(x, "propose a 5; ask a for 0; wait 1;", 3);
        chairs(x, "a+0:1");
        BarberParliament y = Bound.crowd("house 3 0 2 0 30 0 0;", 4);
        Check.runAll(y, "propose a 5; ask a for 0; wait 1; ask b against 0; ask c for 0; wait 1;", 6);
        chairs(y, "a+0:1 b-0:2 c+0:2");
        y.advance(1);
        chairs(y, ". b-0:1 c+0:1");
        Check.runAll(y, "ask a against 0; wait 1;", 2);
        chairs(y, "a-0:2 . .");
    }

    private static void longNumbers() {
        BarberParliament x = Bound.crowd("house 1 0 20 0 30 0 0;", 1);
        Check.runAll(x, "repeat 16 (propose a 5;); ask a against 15; wait 1;", 18);
        chairs(x, "a-15:20");
        x.advance(10);
        chairs(x, "a-15:10");
        x.advance(1);
        chairs(x, "a-15:9");
        x.advance(8);
        chairs(x, "a-15:1");
        Check.runAll(x, "wait 1; ask a for 10; wait 1;", 3);
        chairs(x, "a+10:20");
        Check.runAll(x, "wait 20; ask a for 9; wait 1;", 3);
        chairs(x, "a+9:20");
    }

    private static void exclamationMark() {
        BarberParliament x = Check.house("house 2 1 3 0 30 0 0; member a 1 5 0; member b 1 5 0; member z 1 20 0;");
        Check.runAll(x, "propose a 5; ask a for 0; ask b for 0; wait 1; rebut z 1;", 5);
        chairs(x, "a+0:3 b+0!:3");
        x.advance(2);
        chairs(x, "a+0:1 b+0!:1");
        Check.runAll(x, "ask b for 0;", 0);
        Check.runAll(x, "wait 1; ask b for 0; wait 1;", 3);
        chairs(x, "b+0:3 .");
    }

    private static BarberParliament longNames() {
        StringBuilder setup = new StringBuilder("house 4 5 20 0 30 0 0;");
        for (char name = 'a'; name <= 'l'; name++) {
            setup.append("member zzzzz").append(name).append(name < 'l' ? " 1 0 0;" : " 1 20 0;");
        }
        BarberParliament x = Check.house(setup.toString());
        Check.runAll(x, "repeat 16 (propose zzzzza 0;);", 16);
        for (int member = 0; member < 12; member++) {
            x.request(member, 15, member % 2 == 0);
        }
        return x;
    }

    private static void longestChairs() {
        BarberParliament x = longNames();
        x.advance(1);
        x.rebut(11, 0);
        x.rebut(4, 1);
        x.rebut(11, 2);
        x.rebut(4, 3);
        chairs(x, "zzzzza+15!:20 zzzzzb-15!:20 zzzzzc+15!:20 zzzzzd-15!:20");
    }

    private static void emptyList() {
        BarberParliament x = new BarberParliament();
        requests(x, "");
        Check.runAll(x, "propose ada 8; ask ben for 0; wait 1;", 3);
        requests(x, "");
    }

    private static void separatedRequests() {
        BarberParliament x = Bound.crowd(HEAD, 3);
        Check.runAll(x, "propose a 5; ask c against 0;", 2);
        requests(x, "c-0");
        Check.runAll(x, "ask a for 0;", 1);
        requests(x, "c-0,a+0");
        Check.runAll(x, "repeat 15 (propose a 5;); ask b for 15;", 16);
        requests(x, "c-0,a+0,b+15");
    }

    private static void longestList() {
        requests(longNames(), "zzzzza+15,zzzzzb-15,zzzzzc+15,zzzzzd-15,zzzzze+15,zzzzzf-15,zzzzzg+15,zzzzzh-15,zzzzzi+15,zzzzzj-15,"
            + "zzzzzk+15,zzzzzl-15");
    }

    private static void replaced() {
        BarberParliament x = new BarberParliament();
        Check.runAll(x, "propose ada 8; ask ben for 0; ask cai against 0;", 3);
        requests(x, "ben+0,cai-0");
        chairs(x, ". .");
        Check.due("a byte of the longer output", x.outputByte(3), NONE);
        x.advance(1);
        Check.due("the output stays until it is written", Check.output(x), ". .");
        chairs(x, "ben+0:3 cai-0:3");
        requests(x, "");
        Check.due("a byte of the longer output", x.outputByte(0), NONE);
    }

    private static void bytes() {
        BarberParliament x = new BarberParliament();
        Check.runAll(x, "propose ada 8; ask ben for 0; wait 1; ask cai against 0;", 4);
        x.writeChairs();
        int[] due = {98, 101, 110, 43, 48, 58, 51, 32, 46, NONE};
        for (int i = 0; i < due.length; i++) {
            Check.due("outputByte(" + i + ")", x.outputByte(i), due[i]);
        }
        Check.runAll(x, "ask dov for 0;", 1);
        x.writeRequests();
        int[] dueNext = {99, 97, 105, 45, 48, 44, 100, 111, 118, 43, 48, NONE};
        for (int i = 0; i < dueNext.length; i++) {
            Check.due("outputByte(" + i + ")", x.outputByte(i), dueNext[i]);
        }
    }

    private static void noByte() {
        BarberParliament x = new BarberParliament();
        for (int index : new int[] {0, 1, -1, LEAST, MOST, 700}) {
            Check.due("outputByte(" + index + ") of an empty output", x.outputByte(index), NONE);
        }
        x.writeChairs();
        Check.due("the first", x.outputByte(0), 46);
        Check.due("the last", x.outputByte(2), 46);
        for (int index : new int[] {3, 4, -1, LEAST, MOST, 256, 65536, 1 << 30}) {
            Check.due("outputByte(" + index + ") of three bytes", x.outputByte(index), NONE);
        }
    }

    // ---- undo and slots

    private static void undo() {
        recorded("Promise 5", "runScript", x -> Check.run(x, "ask d for 3; rebut d 0; sharpen a; wait 9; rank heaviest;"));
        recorded("Promise 46", "propose", x -> x.propose(0, 3));
        recorded("Promise 47", "request", x -> x.request(3, 3, true));
        recorded("Promise 48", "rebut", x -> x.rebut(3, 0));
        recorded("Promise 49", "advance by one minute", x -> x.advance(1));
        recorded("Promise 49", "advance by sixty", x -> x.advance(60));
        recorded("Promise 50", "vote", x -> x.vote(3) ? 1 : 0);
        recorded("Promise 51", "withdraw", x -> x.withdraw(3));
        recorded("Promise 52", "sharpen", x -> x.sharpen(0));
        recorded("Promise 53", "setRanking", x -> x.setRanking(2));
        Check.holds("Promise 53: setting the ranking in force is a change, too", BoundsOfChangesTest::sameRankingIsAChange);
        Check.holds(TERMS + "a script is one change", BoundsOfChangesTest::scriptIsOneChange);
        Check.holds(TERMS + "calls that are not marked as changes are not recorded", BoundsOfChangesTest::noChanges);
        Check.holds(TERMS + "at most 8 changes can be undone", BoundsOfChangesTest::eightChanges);
        Check.holds(TERMS + "an older change is forgotten", BoundsOfChangesTest::ninthChange);
        Check.holds(TERMS + "changes between undos, round and round", BoundsOfChangesTest::roundAndRound);
        Check.holds("Promise 57: returns 0 to 8", BoundsOfChangesTest::undoCounts);
        Check.holds("Promise 58: IllegalStateException if no change can be undone", BoundsOfChangesTest::nothingToUndo);
        Check.holds("Promise 58: the text buffer, the error, the output and the slots stay as they are", BoundsOfChangesTest::whatStays);
        Check.holds("Promise 59: slot 0 or 1", BoundsOfChangesTest::twoSlots);
        Check.holds("Promise 59: it replaces what the slot contained", BoundsOfChangesTest::replacedSlot);
        Check.holds("Promise 59: the present minute, from 0 to 9999", BoundsOfChangesTest::savedMinutes);
        Check.holds("Promise 60: the slot keeps it", BoundsOfChangesTest::keptSlot);
        Check.holds("Promise 60: afterwards no change can be undone", BoundsOfChangesTest::noUndoAfterRestore);
        Check.holds("Promise 60: NoSuchElementException if the slot is empty", BoundsOfChangesTest::emptySlot);
        Check.holds("Promise 60: a slot that does not exist comes first", BoundsOfChangesTest::noSlotComesFirst);
        Check.holds("Promises 58 to 60: everything is restored, of the largest chamber", BoundsOfChangesTest::largestChamber);
        Check.holds("Promises 58 to 60: everything is restored, when motions and speeches of the same numbers came meanwhile",
            BoundsOfChangesTest::sameNumbers);
    }

    /** Two speeches, a request, a withdrawn motion, a rejected one, a motion with nothing about it, and a razor that can be sharpened. */
    private static BarberParliament busy() {
        BarberParliament x = Check.house("house 2 2 3 20 30 0 0; member a 3 5 9; member b 2 5 9; member c 5 20 9; member d 1 20 9;");
        Check.runAll(x, "propose a 5; propose b 6; propose c 5; propose d 4; withdraw 2; ask a for 0; ask c against 1; ask b for 0; wait 1;", 9);
        Check.runAll(x, "propose a 4; vote 4;", 2);
        return x;
    }

    private static void recorded(String promise, String call, ToLongFunction<BarberParliament> change) {
        Check.holds(promise + ": Change (" + call + " is recorded as one, and undone)", () -> {
            BarberParliament x = busy();
            String before = Check.state(x);
            change.applyAsLong(x);
            Check.due("undoCount", x.undoCount(), 3);
            Check.yes("it changes something", !Check.state(x).equals(before));
            Check.due("undo", x.undo(), 2);
            Check.due("the state", Check.state(x), before);
        });
    }

    private static void sameRankingIsAChange() {
        BarberParliament x = new BarberParliament();
        Check.due("setRanking", x.setRanking(0), 0);
        Check.due("undoCount", x.undoCount(), 1);
        Check.due("undo", x.undo(), 0);
    }

    private static void scriptIsOneChange() {
        BarberParliament x = new BarberParliament();
        Check.runAll(x, "repeat 20 (wait 1; wait 1;);", 40);
        Check.due("undoCount", x.undoCount(), 1);
        Check.due("undo", x.undo(), 0);
        Check.due("minute", x.minute(), 0);
        Check.runAll(x, "wait 1;", 1);
        Check.due("undoCount after one command", x.undoCount(), 1);
        Check.runAll(x, "", 0);
        Check.due("undoCount after none", x.undoCount(), 2);
        Check.due("undo", x.undo(), 1);
        Check.due("minute", x.minute(), 1);
    }

    private static void noChanges() {
        BarberParliament x = new BarberParliament();
        x.advance(1);
        Check.write(x, "wait");
        x.truncate(2);
        x.findMember();
        x.load();
        x.runScript();
        Check.run(x, "wait 0;");
        x.writeChairs();
        x.writeRequests();
        x.outputByte(0);
        x.save(0);
        x.firstBy(1);
        x.minutesUntilSpeech(0);
        Check.due("undoCount", x.undoCount(), 2);
        x.undo();
        Check.due("undoCount", x.undoCount(), 1);
    }

    private static void eightChanges() {
        BarberParliament x = new BarberParliament();
        for (int change = 1; change <= 8; change++) {
            x.advance(change);
            Check.due("undoCount", x.undoCount(), change);
        }
        int[] minutes = {28, 21, 15, 10, 6, 3, 1, 0};
        for (int i = 0; i < 8; i++) {
            Check.due("undo", x.undo(), 7 - i);
            Check.due("minute", x.minute(), minutes[i]);
        }
        Check.badState(x, "undo of a ninth", () -> x.undo());
        Check.due("minute", x.minute(), 0);
    }

    private static void ninthChange() {
        for (int changes = 9; changes <= 26; changes++) {
            BarberParliament x = new BarberParliament();
            for (int change = 0; change < changes; change++) {
                x.advance(1);
            }
            for (int left = 7; left >= 0; left--) {
                Check.due("undo", x.undo(), left);
                Check.due("minute", x.minute(), changes - 8 + left);
            }
            Check.badState(x, "undo of a forgotten change", () -> x.undo());
        }
    }

    private static void roundAndRound() {
        BarberParliament x = new BarberParliament();
        int minute = 0;
        for (int round = 0; round < 12; round++) {
            x.advance(1);
            x.advance(1);
            x.advance(1);
            x.undo();
            x.undo();
            minute++;
            Check.due("minute", x.minute(), minute);
            Check.due("undoCount", x.undoCount(), round < 6 ? round + 1 : 6);
        }
        for (int left = 5; left >= 0; left--) {
            Check.due("undo", x.undo(), left);
            Check.due("minute", x.minute(), 6 + left);
        }
        Check.badState(x, "undo of a forgotten change", () -> x.undo());
    }

    private static void undoCounts() {
        BarberParliament x = new BarberParliament();
        Check.due("undoCount", x.undoCount(), 0);
        for (int change = 1; change <= 20; change++) {
            x.setRanking(change % 4);
            Check.due("undoCount", x.undoCount(), Math.min(change, 8));
        }
        for (int left = 7; left >= 0; left--) {
            x.undo();
            Check.due("undoCount", x.undoCount(), left);
        }
        x.setRanking(3);
        Check.due("undoCount", x.undoCount(), 1);
    }

    private static void nothingToUndo() {
        BarberParliament x = new BarberParliament();
        Check.badState(x, "undo of a new object", () -> x.undo());
        x.advance(1);
        Check.due("undo", x.undo(), 0);
        Check.badState(x, "undo once more", () -> x.undo());
        x.save(0);
        x.advance(1);
        x.restore(0);
        Check.badState(x, "undo after restore", () -> x.undo());
        x.advance(1);
        Check.write(x, HEAD + "member a 1 0 0;");
        x.load();
        Check.badState(x, "undo after load", () -> x.undo());
    }

    private static void whatStays() {
        BarberParliament x = new BarberParliament();
        Check.runAll(x, "propose ada 8; ask ben for 0;", 2);
        x.save(1);
        x.advance(1);
        x.save(0);
        Check.due("an error", Check.run(x, "wait 61;"), NONE);
        x.writeChairs();
        Check.write(x, "eli");
        x.undo();
        x.undo();
        Check.due("the text buffer", x.findMember(), 4);
        Check.due("errorCode", x.errorCode(), Bound.RANGE);
        Check.due("errorPosition", x.errorPosition(), 5);
        Check.due("the output", Check.output(x), "ben+0:3 .");
        Check.due("slot 0", x.restore(0), 1);
        Check.due("its speaker", x.speaker(0), 1);
        Check.due("slot 1", x.restore(1), 0);
        Check.due("its request", x.placeInList(1), 0);
        Check.due("the text buffer", x.findMember(), 4);
        Check.due("errorPosition", x.errorPosition(), 5);
        Check.due("the output", Check.output(x), "ben+0:3 .");
    }

    private static void twoSlots() {
        BarberParliament x = new BarberParliament();
        x.advance(1);
        Check.due("save(0)", x.save(0), 1);
        x.advance(1);
        Check.due("save(1)", x.save(1), 2);
        for (int slot : new int[] {-1, 2, 8, LEAST, MOST, 256, 65537}) {
            Check.noSuch(x, "save(" + slot + ")", () -> x.save(slot));
            Check.noSuch(x, "restore(" + slot + ")", () -> x.restore(slot));
        }
        Check.due("restore(0)", x.restore(0), 1);
        Check.due("restore(1)", x.restore(1), 2);
    }

    private static void replacedSlot() {
        BarberParliament x = new BarberParliament();
        for (int minute = 1; minute <= 5; minute++) {
            x.advance(1);
            Check.due("save", x.save(1), minute);
        }
        x.advance(1);
        Check.due("restore", x.restore(1), 5);
        Check.due("minute", x.minute(), 5);
        Check.noElement(x, "restore of the other slot", () -> x.restore(0));
    }

    private static void savedMinutes() {
        BarberParliament x = new BarberParliament();
        Check.due("save in minute 0", x.save(0), 0);
        Bound.passToTheEnd(x);
        Check.due("save in minute 9999", x.save(1), 9999);
        Check.due("restore of minute 0", x.restore(0), 0);
        Check.due("restore of minute 9999", x.restore(1), 9999);
        Check.badState(x, "advance(1)", () -> x.advance(1));
    }

    private static void keptSlot() {
        BarberParliament x = new BarberParliament();
        Check.runAll(x, "propose ada 8; ask ben for 0; wait 1;", 3);
        x.save(0);
        for (int i = 0; i < 3; i++) {
            Check.due("restore", x.restore(0), 1);
            Check.due("the chairs", Bound.chairs(x), "ben+0:3 .");
            Check.due("leanings", Bound.leanings(x, 0), "1 4 -2 1 3");
            Check.runAll(x, "propose ben 3; wait 3; withdraw 0; rank contrast;", 4);
        }
    }

    private static void noUndoAfterRestore() {
        BarberParliament x = new BarberParliament();
        x.save(0);
        for (int change = 0; change < 9; change++) {
            x.advance(1);
        }
        Check.due("restore", x.restore(0), 0);
        Check.due("undoCount", x.undoCount(), 0);
        Check.badState(x, "undo", () -> x.undo());
        x.advance(7);
        Check.due("undoCount", x.undoCount(), 1);
        Check.due("undo", x.undo(), 0);
        Check.due("minute", x.minute(), 0);
        Check.badState(x, "undo", () -> x.undo());
    }

    private static void emptySlot() {
        BarberParliament x = new BarberParliament();
        x.advance(1);
        Check.noElement(x, "restore(0)", () -> x.restore(0));
        Check.noElement(x, "restore(1)", () -> x.restore(1));
        x.save(0);
        Check.noElement(x, "restore(1) when slot 0 is filled", () -> x.restore(1));
        Check.due("restore(0)", x.restore(0), 1);
        BarberParliament y = new BarberParliament();
        y.save(1);
        Check.noElement(y, "restore(0) when slot 1 is filled", () -> y.restore(0));
    }

    private static void noSlotComesFirst() {
        BarberParliament x = new BarberParliament();
        for (int slot : new int[] {-1, 2, LEAST, MOST}) {
            Check.noSuch(x, "restore(" + slot + ") when all slots are empty", () -> x.restore(slot));
        }
    }

    private static void largestChamber() {
        BarberParliament x = longNames();
        x.advance(1);
        x.rebut(11, 0);
        x.save(1);
        String before = told(x);
        Check.runAll(x, "wait 60; rank heaviest; vote 0; vote 14; withdraw 3; ask zzzzzl for 1; ask zzzzza for 2; wait 1;", 8);
        x.undo();
        Check.due("after undo", told(x), before);
        Check.runAll(x, "wait 60; rank heaviest; vote 0; vote 14; withdraw 3; ask zzzzzl for 1; ask zzzzza for 2; wait 1;", 8);
        x.restore(1);
        Check.due("after restore", told(x), before);
    }

    /** Whatever is not restored shows the other script's proposer, side, latest speech or count. */
    private static void sameNumbers() {
        String house = "house 2 2 3 0 30 0 0; member a 3 5 9; member b 2 5 9; member c 5 20 9; member d 1 20 9;";
        String kept = "propose a 5; propose a 5; ask b for 0; ask c against 1; wait 1; rebut d 0; ask a for 0; ask d against 0;";
        String other = "propose d 20; propose d 20; ask a for 1; ask d against 0; wait 1; ask b for 1; ask c against 1; propose c 3;";
        BarberParliament x = Check.house(house);
        x.save(1);
        Check.runAll(x, kept, 8);
        x.save(0);
        String due = shown(x);
        x.restore(1);
        Check.runAll(x, other, 8);
        Check.yes("another chamber", !shown(x).equals(due));
        x.restore(0);
        Check.due("after restore", shown(x), due);
        BarberParliament y = Check.house(house);
        y.save(1);
        Check.runAll(y, other, 8);
        y.save(0);
        due = shown(y);
        y.restore(1);
        Check.runAll(y, kept, 8);
        y.restore(0);
        Check.due("after restore", shown(y), due);
        y.advance(1);
        y.undo();
        Check.due("after undo", shown(y), due);
    }

    private static String shown(BarberParliament x) {
        return Check.state(x) + Bound.chairs(x) + Bound.requests(x);
    }

    /** What of a chamber of 12 members and 16 motions is told in few calls. */
    private static String told(BarberParliament x) {
        StringBuilder text = new StringBuilder();
        text.append(x.minute()).append(' ').append(x.ranking()).append(' ').append(x.voteCount()).append(' ').append(x.writeChairs());
        text.append(' ').append(x.writeRequests()).append(' ').append(x.rebuttalCount()).append(' ').append(x.tips());
        for (int member = 0; member < 12; member++) {
            text.append(' ').append(x.sharpness(member)).append(x.speechesOf(member)).append(x.chairOf(member));
            text.append(x.leaning(member, 15)).append(x.placeInList(member));
        }
        for (int motion = 0; motion < 16; motion++) {
            text.append(' ').append(x.motionState(motion)).append(x.lather(motion));
        }
        return text.toString();
    }
}
