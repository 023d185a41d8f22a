import java.util.function.ToLongFunction;

/**
 * What a call does is told in its promise and in "Terms", and it does nothing else: each test looks at everything
 * before a call and after it, and names all that has become another one.
 */
public final class NothingElseTest {
    private static final String WITHOUT_NAME = "text 1>0, findMember 3>-1, ";

    public static void main(String[] args) {
        texts();
        proposalsAndRequests();
        rebuttals();
        minutes();
        votes();
        otherChanges();
        outputUndoAndSlots();
        questions();
        Check.end();
    }

    /**
     * Motion 0 is one about which a speaks, rebuttable, and b waits; about 1 speaks c, about 3 waits d; 2 is withdrawn
     * and 4 rejected. e is silent, undecided about 0, and has no coin. The text is d's name, an error stands, and an
     * output is written.
     */
    private static BarberParliament busy() {
        BarberParliament x = Check.house("house 2 2 3 20 30 0 0; member a 3 5 9; member b 2 5 9; member c 5 20 9; member d 1 20 9;"
            + "member e 4 10 0;");
        Check.runAll(x, "propose a 5; propose b 6; propose c 5; propose d 4; propose a 4; withdraw 2; vote 4;"
            + "ask a for 0; ask c against 1; ask b for 0; ask d for 3; wait 1;", 12);
        Check.due("an error", Check.run(x, "wait 61;"), BarberParliament.NONE);
        x.writeRequests();
        Check.write(x, "d");
        return x;
    }

    private static void only(String sentence, ToLongFunction<BarberParliament> call, String due) {
        Check.holds(sentence, () -> {
            BarberParliament x = busy();
            Facts before = Facts.of(x);
            call.applyAsLong(x);
            Check.due("what has changed", Facts.of(x).since(before), due);
        });
    }

    /** The call is made when the other one has been made. */
    private static void onlyAfter(String sentence, ToLongFunction<BarberParliament> first, ToLongFunction<BarberParliament> call, String due) {
        Check.holds(sentence, () -> {
            BarberParliament x = busy();
            first.applyAsLong(x);
            Facts before = Facts.of(x);
            call.applyAsLong(x);
            Check.due("what has changed", Facts.of(x).since(before), due);
        });
    }

    private static long written(BarberParliament x, String text) {
        x.truncate(0);
        Check.write(x, text);
        return 0;
    }

    private static void texts() {
        only("Promise 2: append changes the text buffer alone", x -> x.append('d' << 24, 0, 0, 0, 0), "text 1>2, findMember 3>-1");
        only("Promise 3: truncate changes the text buffer alone", x -> x.truncate(0), "text 1>0, findMember 3>-1");
        only("Promise 4: load with an error changes the buffer and the error alone", x -> x.load(),
            WITHOUT_NAME + "errorCode 2>1, errorPosition 5>0");
        only("Promise 5: a script with an error changes the buffer and the error alone", x -> x.runScript(),
            WITHOUT_NAME + "errorCode 2>1, errorPosition 5>0");
        onlyAfter("Promise 5: a script of one command changes what its method does, the buffer and the error",
            x -> written(x, "sharpen c;"), x -> x.runScript(),
            "text 10>0, errorCode 2>0, errorPosition 5>-1, undoCount 1>2, purse 2 8>6, sharpness 2 4>5");
        onlyAfter("Promise 5: a script that stops at once changes the buffer, the error and the changes to undo alone",
            x -> written(x, "vote 2; sharpen c;"), x -> x.runScript(), "text 18>0, errorCode 2>0, errorPosition 5>-1, undoCount 1>2");
        only("Promise 9: findMember changes nothing", x -> x.findMember(), "");
    }

    private static void proposalsAndRequests() {
        only("Promise 46: propose adds a motion and changes nothing else", x -> x.propose(4, 11),
            "motionCount 5>6, undoCount 1>2, leaning 0 to 5 none>-1, leaning 1 to 5 none>-1, leaning 2 to 5 none>-4, leaning 3 to 5 none>-4,"
            + " leaning 4 to 5 none>4, proposer 5 none>4, motionState 5 none>0, lather 5 none>0");
        only("Promise 46: a proposer's own leaning is as far as that of others", x -> x.propose(2, 2),
            "motionCount 5>6, undoCount 1>2, leaning 0 to 5 none>2, leaning 1 to 5 none>2, leaning 2 to 5 none>-13, leaning 3 to 5 none>-13,"
            + " leaning 4 to 5 none>-3, proposer 5 none>2, motionState 5 none>0, lather 5 none>0");
        only("Promise 47: request adds a request for and changes nothing else, not the member's leaning of 0", x -> x.request(4, 0, true),
            "requestCount 2>3, undoCount 1>2, placeInList 4 -1>2");
        only("Promise 47: request adds a request against and changes nothing else", x -> x.request(4, 3, false),
            "requestCount 2>3, undoCount 1>2, placeInList 4 -1>2");
        onlyAfter("Promise 47: a request waits for a minute to pass, with both chairs free", x -> x.advance(9), x -> x.request(4, 0, true),
            "requestCount 0>1, undoCount 2>3, placeInList 4 -1>0");
    }

    private static void rebuttals() {
        only("Promise 48: rebut of a speech for a motion takes a mirror and changes nothing else", x -> x.rebut(3, 0),
            "freeMirrors 2>1, rebuttalCount 0>1, undoCount 1>2, isRebutted 0 0>1");
        only("Promise 48: rebut of a speech against a motion takes a mirror and changes nothing else", x -> x.rebut(1, 1),
            "freeMirrors 2>1, rebuttalCount 0>1, undoCount 1>2, isRebutted 1 0>1");
    }

    private static void minutes() {
        only("Promise 49: a minute in which no speech ends", x -> x.advance(1),
            "minute 1>2, undoCount 1>2, remainingTime 0 3>2, remainingTime 1 3>2");
        only("Promise 49: a minute in which two speeches end and two start", x -> x.advance(3),
            "minute 1>4, requestCount 2>0, undoCount 1>2, chairOf 0 0>-1, leaning 0 to 1 4>2, speechesOf 1 0>1, chairOf 1 -1>0,"
            + " placeInList 1 0>-1, leaning 1 to 0 5>7, leaning 1 to 1 4>2, chairOf 2 1>-1, leaning 2 to 0 -10>-8, speechesOf 3 0>1,"
            + " chairOf 3 -1>1, placeInList 3 1>-1, leaning 3 to 0 -10>-8, leaning 3 to 1 -9>-11, leaning 4 to 0 0>2, leaning 4 to 1 1>-1,"
            + " lather 0 0>1, lather 1 0>1, speaker 0 0>1, speaker 1 2>3, speechMotion 1 1>3");
        onlyAfter("Promise 49: a minute in which nothing is left to do", x -> x.advance(9), x -> x.advance(1), "minute 10>11, undoCount 2>3");
        onlyAfter("Promise 49: a minute of drying", x -> x.advance(28), x -> x.advance(1),
            "minute 29>30, undoCount 2>3, lather 0 2>1, lather 1 1>0, lather 3 1>0");
    }

    private static void votes() {
        only("Promise 50: a rejection changes the motion, razors, tips and the requests about it, and nothing else", x -> x.vote(3) ? 1 : 0,
            "requestCount 2>1, tips 2>4, voteCount 1>2, undoCount 1>2, sharpness 0 4>3, sharpness 1 4>3, purse 2 8>7, sharpness 2 4>3,"
            + " purse 3 8>7, sharpness 3 4>3, placeInList 3 1>-1, sharpness 4 4>3, motionState 3 0>2");
        onlyAfter("Promise 50: a passing changes the motion, razors and tips, and nothing else", x -> x.propose(3, 8), x -> x.vote(5) ? 1 : 0,
            "tips 2>4, voteCount 1>2, undoCount 2>3, purse 0 9>8, sharpness 0 4>3, purse 1 9>8, sharpness 1 4>3, sharpness 2 4>3,"
            + " sharpness 3 4>3, sharpness 4 4>3, motionState 5 0>1");
        onlyAfter("Promise 50: a vote on a motion about which there was a speech leaves its lather and leanings", x -> x.advance(9),
            x -> x.vote(1) ? 1 : 0, "tips 2>4, voteCount 1>2, undoCount 2>3, sharpness 0 4>3, sharpness 1 4>3, purse 2 8>7, sharpness 2 4>3,"
            + " purse 3 8>7, sharpness 3 4>3, sharpness 4 4>3, motionState 1 0>2");
    }

    private static void otherChanges() {
        only("Promise 51: withdraw changes the motion and the requests about it, and nothing else: no razor, no tip, no vote",
            x -> x.withdraw(3), "requestCount 2>1, undoCount 1>2, placeInList 3 1>-1, motionState 3 0>3");
        onlyAfter("Promise 51: withdraw leaves the lather and the leanings", x -> x.advance(9), x -> x.withdraw(0),
            "undoCount 2>3, motionState 0 0>3");
        only("Promise 52: sharpen changes one purse and one razor, and nothing else", x -> x.sharpen(2),
            "undoCount 1>2, purse 2 8>6, sharpness 2 4>5");
        only("Promise 52: a running speech does not hinder sharpen", x -> x.sharpen(0), "undoCount 1>2, purse 0 9>7, sharpness 0 4>5");
        only("Promise 52: a request does not hinder sharpen", x -> x.sharpen(1), "undoCount 1>2, purse 1 9>7, sharpness 1 4>5");
        for (int ranking = 1; ranking < 4; ranking++) {
            int next = ranking;
            only("Promise 53: setRanking changes the ranking alone, not the list (" + ranking + ")", x -> x.setRanking(next),
                "ranking 0>" + ranking + ", undoCount 1>2");
        }
    }

    private static void outputUndoAndSlots() {
        only("Promise 54: writeChairs changes the output alone", x -> x.writeChairs(), "output b+0,d+3>a+0:3 c-1:3");
        onlyAfter("Promise 55: writeRequests changes the output alone", x -> x.writeChairs(), x -> x.writeRequests(), "output a+0:3 c-1:3>b+0,d+3");
        only("Promise 56: outputByte changes nothing", x -> x.outputByte(2), "");
        onlyAfter("Promise 58: undo of a change changes it alone", x -> x.setRanking(3), x -> x.undo(), "ranking 3>0, undoCount 2>1");
        only("Promise 59: save changes nothing that is told", x -> x.save(0), "");
        onlyAfter("Promise 60: restore of what was just saved changes the changes to undo alone", x -> x.save(1), x -> x.restore(1), "undoCount 1>0");
    }

    private static void questions() {
        only("Terms, Changes and undo: questions about members are no changes", x -> x.memberCount() + x.weight(0) + x.purse(1) + x.sharpness(2)
            + x.speechesOf(3) + x.leaning(4, 0) + x.chairOf(0) + x.placeInList(1), "");
        only("Terms, Changes and undo: questions about motions are no changes", x -> x.motionCount() + x.proposer(0) + x.motionState(1) + x.lather(2)
            + x.weightFor(3) + x.weightAgainst(0) + x.voterCount(1) + x.obstacle(0) + (x.wouldPass(3) ? 1 : 0) + x.decisiveVoter(3), "");
        only("Terms, Changes and undo: questions about chairs are no changes", x -> x.chairCount() + x.minute() + x.freeMirrors() + x.ranking()
            + x.requestCount() + x.speaker(0) + x.speechMotion(1) + x.remainingTime(0) + (x.isRebutted(1) ? 1 : 0) + x.firstBy(1), "");
        only("Terms, Changes and undo: statistics are no changes", x -> x.tips() + x.voteCount() + x.rebuttalCount() + (long) x.meanLeaning(0)
            + (long) x.weightShare(1) + x.contradictions(), "");
        only("Terms, Changes and undo: forecasts do not change anything", x -> x.minutesUntilSpeech(1) + x.latherAfter(0, 300)
            + x.minutesUntilVote(0), "");
    }
}
