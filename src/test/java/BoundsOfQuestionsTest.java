import java.util.function.IntUnaryOperator;

/** The boundary cases of the calls that ask: promises 1, 8 and 10 to 45. */
public final class BoundsOfQuestionsTest {
    private static final String HEAD = Bound.HEAD;
    private static final int NONE = Bound.NONE;
    private static final int MOST = Bound.MOST;
    private static final int LEAST = Bound.LEAST;

    public static void main(String[] args) {
        Check.holds("Promise 1: no motions, the ranking ARRIVAL, an empty text buffer and an empty output", BoundsOfQuestionsTest::newObject);
        members();
        motions();
        chairs();
        statistics();
        forecasts();
        Check.end();
    }

    private static void newObject() {
        BarberParliament x = new BarberParliament();
        int[] zeros = {x.motionCount(), x.ranking(), Bound.length(x), x.minute(), x.requestCount(), x.tips(), x.voteCount(),
            x.rebuttalCount(), x.undoCount(), x.errorCode(), x.contradictions(), x.remainingTime(0), x.remainingTime(1)};
        for (int i = 0; i < zeros.length; i++) {
            Check.due("number " + i + " of what is 0", zeros[i], 0);
        }
        int[] nones = {x.outputByte(0), x.errorPosition(), x.findMember(), x.speaker(0), x.speaker(1), x.chairOf(4), x.placeInList(4),
            x.firstBy(0), x.minutesUntilSpeech(4)};
        for (int i = 0; i < nones.length; i++) {
            Check.due("number " + i + " of what is NONE", nones[i], NONE);
        }
        Check.noSuch(x, "lather(0)", () -> x.lather(0));
        Check.badState(x, "undo()", () -> x.undo());
        Check.noElement(x, "restore(0)", () -> x.restore(0));
        Check.noElement(x, "restore(1)", () -> x.restore(1));
    }

    // ---- members

    private static void members() {
        Check.holds("Promise 8: returns 1 to 12", BoundsOfQuestionsTest::memberCounts);
        eachMember("Promise 10", "weight", (x, member) -> x.weight(member));
        eachMember("Promise 11", "purse", (x, member) -> x.purse(member));
        eachMember("Promise 12", "sharpness", (x, member) -> x.sharpness(member));
        eachMember("Promise 13", "speechesOf", (x, member) -> x.speechesOf(member));
        eachMember("Promise 14", "leaning", (x, member) -> x.leaning(member, 0));
        eachMember("Promise 15", "chairOf", (x, member) -> x.chairOf(member));
        eachMember("Promise 16", "placeInList", (x, member) -> x.placeInList(member));
        eachMember("Promise 41", "weightShare", (x, member) -> (long) x.weightShare(member));
        eachMember("Promise 43", "minutesUntilSpeech", (x, member) -> x.minutesUntilSpeech(member));
        Check.holds("Promise 10: returns 1 to 9", BoundsOfQuestionsTest::weights);
        Check.holds("Promise 11: the number of coins, from 0", BoundsOfQuestionsTest::purses);
        Check.holds("Promise 12: returns 0 to 5", BoundsOfQuestionsTest::sharpnesses);
        Check.holds("Promise 13: speeches that a member has started", BoundsOfQuestionsTest::startedSpeeches);
        Check.holds("Promise 14: returns -20 to 20", BoundsOfQuestionsTest::leanings);
        Check.holds("Promise 14: IndexOutOfBoundsException if there is no such member or motion", BoundsOfQuestionsTest::noLeaning);
        Check.holds("Promise 15: NONE if the member does not speak", BoundsOfQuestionsTest::chairsOfMembers);
        Check.holds("Promise 16: NONE if the member has no request", BoundsOfQuestionsTest::placesInList);
    }

    private interface Question {
        long of(BarberParliament x, int number);
    }

    private static void eachMember(String promise, String call, Question question) {
        Check.holds(promise + ": " + call + " throws IndexOutOfBoundsException if there is no such member", () -> {
            everyNumber(() -> Bound.crowd(HEAD, 1), call, question, 1);
            everyNumber(BarberParliament::new, call, question, 5);
            everyNumber(() -> Bound.crowd(HEAD, 12), call, question, 12);
        });
    }

    /** The numbers from 0 below the size are answered, those beside are not. */
    private static void everyNumber(java.util.function.Supplier<BarberParliament> made, String call, Question question, int size) {
        BarberParliament x = made.get();
        x.propose(0, 8);
        for (int number = 0; number < size; number++) {
            int present = number;
            Check.due(call + "(" + number + ") of " + size + " throws", Check.thrownBy(() -> question.of(x, present)), "nothing");
        }
        for (int number : new int[] {-1, size, LEAST, MOST, size + 256, size - 65536, 16, 12}) {
            if (number < 0 || number >= size) {
                Check.noSuch(x, call + "(" + number + ") of " + size, () -> question.of(x, number));
            }
        }
    }

    private static void memberCounts() {
        for (int count = 1; count <= 12; count++) {
            Check.due("memberCount", Bound.crowd(HEAD, count).memberCount(), count);
        }
    }

    private static void weights() {
        for (int weight = 1; weight <= 9; weight++) {
            BarberParliament x = Check.house(HEAD + "member a 5 0 0; member b " + weight + " 0 0;");
            Check.due("weight", x.weight(1), weight);
        }
    }

    private static void purses() {
        BarberParliament x = Check.house(HEAD + "member a 9 5 1; member b 1 20 99; member c 9 5 0;");
        Check.runAll(x, "propose a 5; vote 0; propose a 5; vote 1;", 4);
        Check.due("a coin is paid, and then none", x.purse(0), 0);
        Check.due("the most", x.purse(1), 99);
        Check.due("an empty purse", x.purse(2), 0);
    }

    private static void sharpnesses() {
        BarberParliament x = Check.house(HEAD + "member a 9 5 9;");
        for (int motion = 0; motion < 7; motion++) {
            Check.due("sharpness", x.sharpness(0), Math.max(0, 5 - motion));
            x.propose(0, 5);
            x.vote(motion);
        }
        x.sharpen(0);
        Check.due("sharpness after sharpening", x.sharpness(0), 5);
    }

    private static void startedSpeeches() {
        BarberParliament x = Check.house("house 1 0 2 0 30 0 0; member a 9 5 9; member b 9 5 9;");
        Check.runAll(x, "propose a 5; ask a for 0; ask b for 0;", 3);
        Check.due("before the start", x.speechesOf(0), 0);
        x.advance(1);
        Check.due("from the start", x.speechesOf(0), 1);
        Check.due("the other waits", x.speechesOf(1), 0);
        x.withdraw(x.propose(0, 5));
        Check.due("a withdrawal", x.speechesOf(0), 1);
        x.advance(2);
        Check.due("from the end of the first", x.speechesOf(0) * 10 + x.speechesOf(1), 11);
        Check.runAll(x, "wait 2; repeat 19 (ask a for 0; wait 3;);", 39);
        Check.due("many", x.speechesOf(0), 20);
    }

    private static void leanings() {
        BarberParliament x = Check.house("house 1 0 1 20 30 0 0; member a 1 0 0; member b 1 0 0; member c 1 20 0; member d 1 20 0;");
        Check.runAll(x, "propose a 0; propose c 0; repeat 9 (ask a for 0; wait 2;);", 20);
        Check.due("the most", x.leaning(1, 0), 20);
        Check.runAll(x, "repeat 9 (ask a against 1; wait 2;);", 18);
        Check.due("the least", x.leaning(2, 1), -20);
        Check.due("the least", x.leaning(3, 1), -20);
        Check.due("the speaker", x.leaning(0, 1), 5);
        Check.due("leaning to the other motion", x.leaning(2, 0), 3);
    }

    private static void noLeaning() {
        BarberParliament x = new BarberParliament();
        Check.noSuch(x, "leaning(0, 0) without motions", () -> x.leaning(0, 0));
        x.propose(0, 8);
        Check.noSuch(x, "leaning(0, 1)", () -> x.leaning(0, 1));
        Check.noSuch(x, "leaning(0, -1)", () -> x.leaning(0, -1));
        Check.noSuch(x, "leaning(5, 0)", () -> x.leaning(5, 0));
        Check.noSuch(x, "leaning(-1, 0)", () -> x.leaning(-1, 0));
        Check.noSuch(x, "leaning(-1, 1)", () -> x.leaning(-1, 1));
        Check.noSuch(x, "leaning(12, -1)", () -> x.leaning(12, -1));
        BarberParliament y = Bound.sixteenMotions();
        Check.due("the last of all", y.leaning(4, 15), 3);
        Check.noSuch(y, "leaning(4, 16)", () -> y.leaning(4, 16));
        Check.noSuch(y, "leaning(5, 15)", () -> y.leaning(5, 15));
        Check.noSuch(y, "leaning(most, least)", () -> y.leaning(MOST, LEAST));
    }

    private static void chairsOfMembers() {
        BarberParliament x = Bound.crowd("house 4 0 2 0 30 0 0;", 12);
        Check.runAll(x, "propose a 5; ask l for 0; ask k for 0; ask j for 0; ask i for 0; ask a for 0;", 6);
        Check.due("a waiting member", x.chairOf(11), NONE);
        x.advance(1);
        for (int chair = 0; chair < 4; chair++) {
            Check.due("chairOf", x.chairOf(11 - chair), chair);
        }
        Check.due("a member who still waits", x.chairOf(0), NONE);
        Check.due("a silent member", x.chairOf(1), NONE);
        x.advance(2);
        Check.due("the next speaker", x.chairOf(0), 0);
        Check.due("who has spoken", x.chairOf(11), NONE);
    }

    private static void placesInList() {
        BarberParliament x = Bound.crowd(HEAD, 12);
        x.propose(0, 5);
        Check.due("no request at all", x.placeInList(0), NONE);
        for (int member = 0; member < 12; member++) {
            x.request(member, 0, true);
        }
        Check.due("the first", x.placeInList(0), 0);
        Check.due("the last", x.placeInList(11), 11);
        x.advance(1);
        Check.due("the speaker", x.placeInList(0), NONE);
        Check.due("the first", x.placeInList(1), 0);
        Check.due("the last", x.placeInList(11), 10);
        x.advance(12);
        Check.due("when all have spoken", x.placeInList(11), NONE);
    }

    // ---- motions

    private static void motions() {
        Check.holds("Promise 17: returns 0 to 16", BoundsOfQuestionsTest::motionCounts);
        eachMotion("Promise 18", "proposer", (x, motion) -> x.proposer(motion));
        eachMotion("Promise 19", "motionState", (x, motion) -> x.motionState(motion));
        eachMotion("Promise 20", "lather", (x, motion) -> x.lather(motion));
        eachMotion("Promise 21", "weightFor", (x, motion) -> x.weightFor(motion));
        eachMotion("Promise 22", "weightAgainst", (x, motion) -> x.weightAgainst(motion));
        eachMotion("Promise 23", "voterCount", (x, motion) -> x.voterCount(motion));
        eachMotion("Promise 24", "obstacle", (x, motion) -> x.obstacle(motion));
        eachMotion("Promise 25", "wouldPass", (x, motion) -> x.wouldPass(motion) ? 1 : 0);
        eachMotion("Promise 26", "decisiveVoter", (x, motion) -> x.decisiveVoter(motion));
        eachMotion("Promise 40", "meanLeaning", (x, motion) -> (long) x.meanLeaning(motion));
        eachMotion("Promise 44", "latherAfter", (x, motion) -> x.latherAfter(motion, 0));
        eachMotion("Promise 45", "minutesUntilVote", (x, motion) -> x.minutesUntilVote(motion));
        Check.holds("Promise 20: returns 0 to 9", BoundsOfQuestionsTest::latherLevels);
        Check.holds("Promise 21: the total weight of those in favour, from nobody to all", BoundsOfQuestionsTest::weightsFor);
        Check.holds("Promise 22: the total weight of those opposed, from nobody to all", BoundsOfQuestionsTest::weightsAgainst);
        Check.holds("Promise 23: the voters, from nobody to all", BoundsOfQuestionsTest::voterCounts);
        Check.holds("Promises 21 to 23: whatever its state is", BoundsOfQuestionsTest::whateverItsState);
        Check.holds("Promise 24: the first obstacle that applies", BoundsOfQuestionsTest::firstObstacle);
        Check.holds("Promise 25: true if the total weight for it would be greater", BoundsOfQuestionsTest::wouldPass);
        Check.holds("Promise 25: whatever prevents the vote", BoundsOfQuestionsTest::wouldPassPrevented);
        Check.holds("Promise 26: who alone could turn the result", BoundsOfQuestionsTest::decisiveVoters);
        Check.holds("Promise 26: of several with the same weight the one with the lowest number", BoundsOfQuestionsTest::lowestNumber);
        Check.holds("Promise 26: NONE if there is none", BoundsOfQuestionsTest::noDecisiveVoter);
    }

    private static void eachMotion(String promise, String call, Question question) {
        Check.holds(promise + ": " + call + " throws IndexOutOfBoundsException if there is no such motion", () -> {
            BarberParliament none = new BarberParliament();
            for (int motion : new int[] {0, -1, 15, LEAST, MOST}) {
                Check.noSuch(none, call + "(" + motion + ") without motions", () -> question.of(none, motion));
            }
            everyNumber(BarberParliament::new, call, question, 1);
            everyNumber(BoundsOfQuestionsTest::fifteenMotions, call, question, 16);
        });
    }

    private static BarberParliament fifteenMotions() {
        BarberParliament x = new BarberParliament();
        Check.runAll(x, "repeat 15 (propose ada 8;);", 15);
        return x;
    }

    private static void motionCounts() {
        BarberParliament x = new BarberParliament();
        for (int motion = 0; motion < 16; motion++) {
            Check.due("motionCount", x.motionCount(), motion);
            x.propose(0, 8);
        }
        Check.due("motionCount", x.motionCount(), 16);
        Check.badState(x, "propose", () -> x.propose(0, 8));
        Check.due("motionCount", x.motionCount(), 16);
        x.withdraw(3);
        Check.due("motionCount with a withdrawn one", x.motionCount(), 16);
    }

    private static void latherLevels() {
        BarberParliament x = Check.house("house 1 0 1 0 30 0 0; member a 1 5 0;");
        x.propose(0, 5);
        for (int speech = 1; speech <= 10; speech++) {
            Check.runAll(x, "ask a for 0; wait 2;", 2);
            Check.due("lather", x.lather(0), Math.min(speech, 9));
        }
        x.advance(60);
        x.advance(60);
        x.advance(60);
        Check.due("lather, six dryings later", x.lather(0), 3);
        x.advance(60);
        x.advance(60);
        Check.due("lather, ten dryings later", x.lather(0), 0);
    }

    private static void weightsFor() {
        BarberParliament x = Check.house(HEAD + Bound.members(12, "9 5 0"));
        Check.runAll(x, "propose a 5; propose a 10; propose a 20;", 3);
        Check.due("all", x.weightFor(0), 108);
        Check.due("the undecided", x.weightFor(1), 0);
        Check.due("the opposed", x.weightFor(2), 0);
    }

    private static void weightsAgainst() {
        BarberParliament x = Check.house(HEAD + Bound.members(12, "9 5 0"));
        Check.runAll(x, "propose a 5; propose a 10; propose a 20;", 3);
        Check.due("those in favour", x.weightAgainst(0), 0);
        Check.due("the undecided", x.weightAgainst(1), 0);
        Check.due("all", x.weightAgainst(2), 108);
    }

    private static void voterCounts() {
        BarberParliament x = Check.house(HEAD + Bound.members(11, "9 5 0") + "member z 1 0 0;");
        Check.runAll(x, "propose a 4; propose a 10; propose a 5;", 3);
        Check.due("all", x.voterCount(0), 12);
        Check.due("one alone", x.voterCount(1), 1);
        Check.due("all but one", x.voterCount(2), 11);
        BarberParliament y = Check.house(HEAD + Bound.members(12, "9 5 0"));
        y.propose(0, 10);
        Check.due("nobody", y.voterCount(0), 0);
    }

    private static void whateverItsState() {
        BarberParliament x = Check.house(HEAD + "member a 4 5 9; member b 2 20 9;");
        Check.runAll(x, "propose a 5; propose b 20; propose a 5; vote 0; vote 1; withdraw 2;", 6);
        int[] due = {422, 242, 422};
        for (int motion = 0; motion < 3; motion++) {
            int told = x.weightFor(motion) * 100 + x.weightAgainst(motion) * 10 + x.voterCount(motion);
            Check.due("weights and voters of a decided motion", told, due[motion]);
        }
    }

    private static void firstObstacle() {
        // Level 1, quorum 3, two members: every obstacle applies to a withdrawn motion but the speech.
        String house = "house 2 0 2 0 30 1 3; member a 1 5 0; member b 1 5 0;";
        BarberParliament x = Check.house(house);
        Check.runAll(x, "propose a 5; propose a 5; withdraw 1;", 3);
        Check.due("decided, too dry and no quorum", x.obstacle(1), BarberParliament.DECIDED);
        Check.due("too dry and no quorum", x.obstacle(0), BarberParliament.TOO_DRY);
        Check.runAll(x, "ask a for 0; wait 1;", 2);
        Check.due("too dry, a speech and no quorum", x.obstacle(0), BarberParliament.TOO_DRY);
        Check.runAll(x, "ask b for 0; wait 2;", 2);
        Check.due("a speech and no quorum", x.lather(0) * 10 + x.obstacle(0), 10 + BarberParliament.SPEECH_RUNNING);
        x.advance(1);
        Check.due("no quorum", x.obstacle(0), BarberParliament.NO_QUORUM);
        BarberParliament y = Check.house("house 2 0 2 0 30 1 2; member a 1 5 0; member b 1 5 0;");
        Check.runAll(y, "propose a 5; ask a for 0; wait 3;", 3);
        Check.due("none", y.obstacle(0), BarberParliament.MAY_VOTE);
        y.vote(0);
        Check.due("decided alone", y.obstacle(0), BarberParliament.DECIDED);
    }

    private static void wouldPass() {
        passes(false, "member a 4 5 0; member b 4 15 0;");
        passes(true, "member a 5 5 0; member b 4 15 0;");
        passes(false, "member a 4 5 0; member b 5 15 0;");
        passes(false, "member a 4 10 0;");
        passes(true, "member a 1 5 0;");
        passes(false, "member a 1 15 0;");
        passes(true, Bound.members(12, "9 5 0"));
        passes(false, Bound.members(12, "9 20 0"));
    }

    private static void passes(boolean due, String members) {
        BarberParliament x = Check.house(HEAD + members);
        x.propose(0, 5);
        Check.due("wouldPass with " + members, x.wouldPass(0) ? 1 : 0, due ? 1 : 0);
    }

    private static void wouldPassPrevented() {
        BarberParliament x = Check.house("house 1 0 2 0 30 9 12; member a 1 5 0;");
        Check.runAll(x, "propose a 5; propose a 5;", 2);
        Check.yes("too dry", x.wouldPass(0));
        Check.runAll(x, "withdraw 0; ask a for 1; wait 1;", 3);
        Check.yes("withdrawn", x.wouldPass(0));
        Check.yes("a speech is running", x.wouldPass(1));
    }

    private static void decisive(int due, String members) {
        BarberParliament x = Check.house(HEAD + members);
        x.propose(0, 5);
        Check.due("decisiveVoter of " + members, x.decisiveVoter(0), due);
    }

    private static void decisiveVoters() {
        // 7 to 3: one of weight 2 makes it 5 to 5, which is rejected.
        decisive(1, "member a 5 5 0; member b 2 5 0; member c 3 20 0;");
        // 7 to 2: one of weight 2 makes it 5 to 4, which is too little.
        decisive(0, "member a 5 5 0; member b 2 5 0; member c 2 20 0;");
        // 5 to 5 is rejected: the lightest one against turns it.
        decisive(2, "member a 5 5 0; member b 4 20 0; member c 1 20 0;");
        // 4 to 6: one of weight 1 makes it 5 to 5, which is rejected still.
        decisive(3, "member a 4 5 0; member b 1 20 0; member c 3 20 0; member d 2 20 0;");
        // One voter alone.
        decisive(0, "member a 9 5 0;");
        decisive(0, "member a 9 20 0;");
        // The undecided have no vote to turn.
        decisive(1, "member a 1 10 0; member b 9 5 0; member c 1 10 0;");
    }

    private static void lowestNumber() {
        decisive(1, "member a 3 5 0; member b 2 5 0; member c 2 5 0; member d 5 20 0;");
        decisive(0, "member a 2 5 0; member b 2 5 0; member c 2 5 0; member d 5 20 0;");
        decisive(1, "member a 6 5 0; member b 2 20 0; member c 2 20 0; member d 2 20 0;");
        decisive(0, Bound.members(11, "1 5 0") + "member z 9 20 0;");
    }

    private static void noDecisiveVoter() {
        decisive(NONE, "member a 9 10 0;");
        decisive(NONE, "member a 3 5 0; member b 3 5 0; member c 3 5 0;");
        decisive(NONE, "member a 3 20 0; member b 3 20 0;");
        BarberParliament x = Check.house(HEAD + "member a 9 5 0;");
        Check.runAll(x, "repeat 6 (propose a 5;); vote 0; vote 1; vote 2; vote 3; vote 4;", 11);
        Check.due("decisiveVoter when all razors are blunt", x.decisiveVoter(5), NONE);
    }

    // ---- chairs and requests

    private static void chairs() {
        Check.holds("Promise 27: returns 1 to 4", () -> {
            for (int chairs = 1; chairs <= 4; chairs++) {
                Check.due("chairCount", Bound.crowd("house " + chairs + " 0 1 0 2 0 0;", 1).chairCount(), chairs);
            }
        });
        Check.holds("Promise 28: the minute, from 0", BoundsOfQuestionsTest::minutes);
        Check.holds("Promise 29: returns 0 to 5", BoundsOfQuestionsTest::freeMirrors);
        Check.holds("Promise 30: returns ARRIVAL, HEAVIEST, QUIETEST or CONTRAST", BoundsOfQuestionsTest::rankings);
        Check.holds("Promise 31: returns 0 to 12", BoundsOfQuestionsTest::requestCounts);
        eachChair("Promise 32", "speaker", (x, chair) -> x.speaker(chair));
        eachChair("Promise 33", "speechMotion", (x, chair) -> x.speechMotion(chair));
        eachChair("Promise 34", "remainingTime", (x, chair) -> x.remainingTime(chair));
        eachChair("Promise 35", "isRebutted", (x, chair) -> x.isRebutted(chair) ? 1 : 0);
        Check.holds("Promise 32: NONE if the chair is free", () -> freeChair(x -> x.speaker(1), NONE));
        Check.holds("Promise 33: NoSuchElementException if the chair is free", BoundsOfQuestionsTest::noSpeechMotion);
        Check.holds("Promise 33: a chair that does not exist comes first", BoundsOfQuestionsTest::noChairBeforeNoSpeech);
        Check.holds("Promise 33: the motions 0 to 15", BoundsOfQuestionsTest::speechMotions);
        Check.holds("Promise 34: 0 if the chair is free", () -> freeChair(x -> x.remainingTime(1), 0));
        Check.holds("Promise 35: false if it is not rebutted or the chair is free", () -> freeChair(x -> x.isRebutted(1) ? 1 : 0, 0));
        Check.holds("Promise 36: NONE if the list of requests is empty", BoundsOfQuestionsTest::firstOfNone);
        Check.holds("Promise 36: IndexOutOfBoundsException if there is no such ranking", BoundsOfQuestionsTest::noRanking);
        Check.holds("Promise 36: the member whose request would be put first, of one and of twelve", BoundsOfQuestionsTest::firstOfMany);
    }

    private interface Asked {
        long of(BarberParliament x);
    }

    /** A chair that has not been taken yet, one between two speeches, and one after a rebutted speech. */
    private static void freeChair(Asked asked, long due) {
        BarberParliament x = Check.house("house 2 1 2 0 30 0 0; member a 1 5 0; member b 1 5 0; member c 1 20 0;");
        Check.due("of a new chamber", asked.of(x), due);
        Check.runAll(x, "propose a 5; ask a for 0; wait 1;", 3);
        Check.due("when another chair is taken", asked.of(x), due);
        Check.runAll(x, "ask b for 0; wait 1; rebut c 1;", 3);
        Check.yes("while it is taken", asked.of(x) != due);
        Check.runAll(x, "wait 2;", 1);
        Check.due("after a rebutted speech", asked.of(x), due);
    }

    private static void eachChair(String promise, String call, Question question) {
        Check.holds(promise + ": " + call + " throws IndexOutOfBoundsException if there is no such chair", () -> {
            for (int chairs = 1; chairs <= 4; chairs++) {
                BarberParliament x = Bound.crowd("house " + chairs + " 0 2 0 30 0 0;", 4);
                Check.runAll(x, "propose a 5; ask a for 0; ask b for 0; ask c for 0; ask d for 0; wait 1;", 6);
                for (int chair = 0; chair < chairs; chair++) {
                    int present = chair;
                    Check.due(call + "(" + chair + ") of " + chairs + " throws", Check.thrownBy(() -> question.of(x, present)), "nothing");
                }
                for (int chair : new int[] {-1, chairs, 4, LEAST, MOST, chairs + 256, chairs - 65536}) {
                    Check.noSuch(x, call + "(" + chair + ") of " + chairs, () -> question.of(x, chair));
                }
            }
        });
    }

    private static void minutes() {
        BarberParliament x = new BarberParliament();
        Check.due("at first", x.minute(), 0);
        Bound.passToTheEnd(x);
        Check.due("the last", x.minute(), 9999);
        Check.badState(x, "advance(1)", () -> x.advance(1));
        Check.due("the last stays", x.minute(), 9999);
    }

    private static void freeMirrors() {
        for (int mirrors = 0; mirrors <= 5; mirrors++) {
            BarberParliament x = Check.house("house 4 " + mirrors + " 2 0 30 0 0;" + Bound.members(4, "1 5 0") + "member z 1 20 0;");
            Check.runAll(x, "propose a 5; ask a for 0; ask b for 0; ask c for 0; ask d for 0; wait 1;", 6);
            for (int chair = 0; chair < 4; chair++) {
                int left = Math.max(0, mirrors - chair);
                int rebutted = chair;
                Check.due("freeMirrors", x.freeMirrors(), left);
                if (left > 0) {
                    Check.due("rebut", x.rebut(4, chair), left - 1);
                } else {
                    Check.badState(x, "rebut without a mirror", () -> x.rebut(4, rebutted));
                }
            }
            Check.due("freeMirrors", x.freeMirrors(), Math.max(0, mirrors - 4));
            x.advance(2);
            Check.due("freeMirrors afterwards", x.freeMirrors(), mirrors);
        }
    }

    private static void rankings() {
        BarberParliament x = new BarberParliament();
        Check.due("at first", x.ranking(), BarberParliament.ARRIVAL);
        for (int ranking = 3; ranking >= 0; ranking--) {
            x.setRanking(ranking);
            Check.due("ranking", x.ranking(), ranking);
        }
    }

    private static void requestCounts() {
        BarberParliament x = Bound.crowd(HEAD, 12);
        x.propose(0, 5);
        for (int member = 0; member < 12; member++) {
            Check.due("requestCount", x.requestCount(), member);
            x.request(member, 0, false);
        }
        Check.due("requestCount", x.requestCount(), 12);
        Check.due("all fall with the motion", x.withdraw(0), 12);
        Check.due("requestCount", x.requestCount(), 0);
    }

    private static void noSpeechMotion() {
        BarberParliament x = new BarberParliament();
        Check.noElement(x, "speechMotion(0) of a new object", () -> x.speechMotion(0));
        Check.noElement(x, "speechMotion(1) of a new object", () -> x.speechMotion(1));
        Check.runAll(x, "propose ada 8; ask ben for 0; wait 1;", 3);
        Check.due("speechMotion(0)", x.speechMotion(0), 0);
        Check.noElement(x, "speechMotion(1) beside a taken one", () -> x.speechMotion(1));
        x.advance(3);
        Check.noElement(x, "speechMotion(0) after the speech", () -> x.speechMotion(0));
    }

    private static void noChairBeforeNoSpeech() {
        BarberParliament x = new BarberParliament();
        for (int chair : new int[] {-1, 2, 3, LEAST, MOST}) {
            Check.noSuch(x, "speechMotion(" + chair + ") when all chairs are free", () -> x.speechMotion(chair));
        }
    }

    private static void speechMotions() {
        BarberParliament x = Bound.crowd("house 2 0 2 0 30 0 0;", 3);
        Check.runAll(x, "repeat 16 (propose a 5;); ask a for 15; ask b for 0; wait 1;", 19);
        Check.due("the last motion", x.speechMotion(0), 15);
        Check.due("the first motion", x.speechMotion(1), 0);
    }

    private static void firstOfNone() {
        BarberParliament x = new BarberParliament();
        for (int ranking = 0; ranking < 4; ranking++) {
            Check.due("without motions", x.firstBy(ranking), NONE);
        }
        Check.runAll(x, "propose ada 8; ask ben for 0; wait 1;", 3);
        for (int ranking = 0; ranking < 4; ranking++) {
            Check.due("when the only one speaks", x.firstBy(ranking), NONE);
        }
    }

    private static void noRanking() {
        BarberParliament x = new BarberParliament();
        for (int ranking : new int[] {-1, 4, LEAST, MOST, 256, 65536}) {
            Check.noSuch(x, "firstBy(" + ranking + ") of an empty list", () -> x.firstBy(ranking));
        }
        BarberParliament y = new BarberParliament();
        Check.runAll(y, "propose ada 8; ask ben for 0;", 2);
        for (int ranking : new int[] {-1, 4, LEAST, MOST}) {
            Check.noSuch(y, "firstBy(" + ranking + ")", () -> y.firstBy(ranking));
        }
    }

    private static void firstOfMany() {
        BarberParliament x = Check.house(HEAD + Bound.members(11, "4 5 0") + "member z 5 5 0;");
        x.propose(0, 5);
        x.request(5, 0, true);
        for (int ranking = 0; ranking < 4; ranking++) {
            Check.due("of one", x.firstBy(ranking), 5);
        }
        for (int member = 0; member < 12; member++) {
            if (member != 5) {
                x.request(member, 0, true);
            }
        }
        int[] due = {5, 11, 5, 5};
        for (int ranking = 0; ranking < 4; ranking++) {
            Check.due("of twelve", x.firstBy(ranking), due[ranking]);
        }
    }

    // ---- statistics

    private static void statistics() {
        Check.holds("Promise 37: coins that were paid as tips, none with an empty purse", BoundsOfQuestionsTest::tips);
        Check.holds("Promise 38: votes that were held, not those that were refused", BoundsOfQuestionsTest::votes);
        Check.holds("Promise 39: rebuttals, not those that were refused", BoundsOfQuestionsTest::rebuttals);
        Check.holds("Promise 40: the mean leaning, the least and the greatest", BoundsOfQuestionsTest::means);
        Check.holds("Promise 41: the share in the total weight, the least and the greatest", BoundsOfQuestionsTest::shares);
        Check.holds("Promise 42: the result is always 0", BoundsOfQuestionsTest::contradictions);
    }

    private static void tips() {
        BarberParliament x = Check.house(HEAD + Bound.members(12, "9 5 1"));
        Check.due("tips", x.tips(), 0);
        Check.runAll(x, "propose a 5; vote 0;", 2);
        Check.due("a coin of each", x.tips(), 12);
        Check.runAll(x, "propose a 5; vote 1;", 2);
        Check.due("and none more", x.tips(), 12);
    }

    private static void votes() {
        BarberParliament x = Check.house(HEAD + "member a 9 5 1;");
        Check.runAll(x, "repeat 16 (propose a 5;);", 16);
        for (int motion = 0; motion < 15; motion++) {
            x.vote(motion);
            int decided = motion;
            Check.badState(x, "vote on a decided motion", () -> x.vote(decided) ? 1 : 0);
            Check.due("voteCount", x.voteCount(), motion + 1);
        }
        x.withdraw(15);
        Check.due("a withdrawal is no vote", x.voteCount(), 15);
    }

    private static void rebuttals() {
        BarberParliament x = Check.house("house 1 1 1 0 30 0 0; member a 9 5 1; member z 1 20 0;");
        Check.runAll(x, "propose a 5; repeat 9 (ask a for 0; wait 1; rebut z 0; wait 1;);", 37);
        Check.due("rebuttalCount", x.rebuttalCount(), 9);
        Check.badState(x, "rebut of a free chair", () -> x.rebut(1, 0));
        Check.due("rebuttalCount", x.rebuttalCount(), 9);
    }

    private static void means() {
        BarberParliament x = Check.house("house 1 0 1 20 30 0 0; member a 1 0 0; member b 1 0 0; member c 1 20 0;");
        Check.runAll(x, "propose a 0; propose c 20; propose a 10;", 3);
        mean(x, 0, -5.0 / 3.0);
        mean(x, 1, -25.0 / 3.0);
        mean(x, 2, -5.0);
        Check.runAll(x, "repeat 8 (ask a for 0; wait 2;); repeat 5 (ask c for 0; wait 2;);", 26);
        mean(x, 0, (15.0 + 20.0 + 1.0) / 3.0);
        Check.runAll(x, "repeat 10 (ask c for 0; wait 2;); repeat 10 (ask a for 0; wait 2;);", 40);
        mean(x, 0, 20.0);
        Check.runAll(x, "repeat 10 (ask b against 1; wait 2;); repeat 10 (ask a against 1; wait 2;);", 40);
        mean(x, 1, -20.0);
        BarberParliament y = Check.house(HEAD + "member a 1 5 0; member b 1 15 0;");
        y.propose(0, 10);
        mean(y, 0, 0.0);
        BarberParliament z = Check.house(HEAD + Bound.members(11, "1 5 0") + "member z 1 6 0;");
        Check.runAll(z, "propose a 5; repeat 15 (propose a 9;);", 16);
        mean(z, 0, 59.0 / 12.0);
        mean(z, 15, 13.0 / 12.0);
        BarberParliament w = Check.house(HEAD + "member a 1 5 0;");
        Check.runAll(w, "propose a 5; propose a 20;", 2);
        mean(w, 0, 5.0);
        mean(w, 1, -10.0);
    }

    private static void mean(BarberParliament x, int motion, double due) {
        Check.due("the bits of meanLeaning", Double.doubleToRawLongBits(x.meanLeaning(motion)), Double.doubleToRawLongBits(due));
    }

    private static void shares() {
        share(Check.house(HEAD + "member a 1 0 0;"), 0, 1f);
        share(Check.house(HEAD + "member a 9 0 0;"), 0, 1f);
        BarberParliament x = Check.house(HEAD + "member a 1 0 0;" + Bound.members(12, "9 0 0").substring(15));
        share(x, 0, 1f / 100f);
        share(x, 11, 9f / 100f);
        BarberParliament y = Check.house(HEAD + "member a 1 0 0; member b 2 0 0;");
        share(y, 0, 1f / 3f);
        share(y, 1, 2f / 3f);
    }

    private static void share(BarberParliament x, int member, float due) {
        Check.due("the bits of weightShare", Float.floatToRawIntBits(x.weightShare(member)), Float.floatToRawIntBits(due));
    }

    private static void contradictions() {
        BarberParliament x = Check.house("house 2 2 2 20 4 0 0; member a 3 5 99; member b 2 5 0; member c 1 20 3; member d 1 20 1;");
        String[] scripts = {"", "propose a 5; propose c 20; propose a 5;", "ask a for 0; ask c against 0; ask d for 1;", "wait 1; rebut b 1;",
            "wait 2;", "vote 0; sharpen a;", "wait 2; withdraw 1; ask b for 2; ask d against 2;", "wait 60;", "vote 2; sharpen c; sharpen b;", "propose c 20; vote 3; propose a 20; propose b 20;", "vote 4; sharpen a;"};
        for (String script : scripts) {
            Check.run(x, script);
            Check.due("contradictions after " + script, x.contradictions(), 0);
        }
        Check.due("a motion is passed", x.motionState(0), BarberParliament.PASSED);
        Check.due("a motion is rejected", x.motionState(4), BarberParliament.REJECTED);
        Check.due("a motion is withdrawn", x.motionState(1), BarberParliament.WITHDRAWN);
        Check.yes("tips", x.tips() > 0);
        Check.due("a sharpened razor", x.sharpness(0), 5);
        while (x.undoCount() > 0) {
            x.undo();
            Check.due("contradictions after undo", x.contradictions(), 0);
        }
    }

    // ---- forecasts

    private static void forecasts() {
        Check.holds("Promise 43: at least 1", BoundsOfQuestionsTest::atLeastOneMinute);
        Check.holds("Promise 43: NONE if the member has no request", BoundsOfQuestionsTest::noRequest);
        Check.holds("Promise 43: within 300 minutes (the longest that can be)", BoundsOfQuestionsTest::longestWait);
        Check.holds("Promise 44: minutes 0 to 300", BoundsOfQuestionsTest::latherMinutes);
        Check.holds("Promise 44: the level after 0 minutes is the present one", BoundsOfQuestionsTest::latherNow);
        Check.holds("Promise 44: the level after 299 and after 300 minutes", BoundsOfQuestionsTest::latherAtTheEnd);
        Check.holds("Promise 44: IllegalArgumentException if minutes is out of range", BoundsOfQuestionsTest::latherOutOfRange);
        Check.holds("Promise 44: IndexOutOfBoundsException comes first", BoundsOfQuestionsTest::noMotionComesFirst);
        Check.holds("Promise 45: 0 if nothing prevents it now", BoundsOfQuestionsTest::voteNow);
        Check.holds("Promise 45: the least number of minutes", BoundsOfQuestionsTest::leastMinutes);
        Check.holds("Promise 45: NONE if it is prevented for 300 minutes", BoundsOfQuestionsTest::neverAVote);
        Check.holds("Terms, Changes and undo: forecasts do not change anything", BoundsOfQuestionsTest::forecastsChangeNothing);
        Check.holds("Terms, Changes and undo: forecasts reach beyond minute 9999", BoundsOfQuestionsTest::beyondTheLastMinute);
    }

    private static void atLeastOneMinute() {
        BarberParliament x = Check.house("house 1 0 2 0 30 0 0;" + Bound.members(3, "1 5 0"));
        Check.runAll(x, "propose a 5; ask a for 0; ask b for 0;", 3);
        Check.due("a free chair", x.minutesUntilSpeech(0), 1);
        Check.due("one before it", x.minutesUntilSpeech(1), 3);
        x.advance(2);
        Check.due("a speech in its last minute", x.minutesUntilSpeech(1), 1);
        BarberParliament y = Check.house("house 2 0 1 0 30 0 0;" + Bound.members(3, "1 5 0"));
        Check.runAll(y, "propose a 5; ask a for 0; ask b for 0; ask c for 0;", 4);
        Check.due("two chairs, the second request", y.minutesUntilSpeech(1), 1);
        Check.due("two chairs, the third request", y.minutesUntilSpeech(2), 2);
    }

    private static void noRequest() {
        BarberParliament x = Check.house("house 1 0 2 0 30 0 0;" + Bound.members(3, "1 5 0"));
        Check.due("no motion", x.minutesUntilSpeech(0), NONE);
        Check.runAll(x, "propose a 5; ask a for 0; ask b for 0; wait 1;", 4);
        Check.due("a speaker", x.minutesUntilSpeech(0), NONE);
        Check.due("a silent member", x.minutesUntilSpeech(2), NONE);
        x.advance(2);
        Check.due("who has spoken", x.minutesUntilSpeech(0), NONE);
    }

    private static BarberParliament twelveLongSpeeches(int level) {
        BarberParliament x = Bound.crowd("house 1 0 20 0 30 " + level + " 0;", 12);
        x.propose(0, 5);
        for (int member = 0; member < 12; member++) {
            x.request(member, 0, true);
        }
        return x;
    }

    private static void longestWait() {
        BarberParliament x = twelveLongSpeeches(0);
        for (int member = 0; member < 12; member++) {
            Check.due("minutesUntilSpeech", x.minutesUntilSpeech(member), 1 + 20 * member);
        }
        x.advance(1);
        Check.due("a minute later", x.minutesUntilSpeech(11), 220);
    }

    private static void latherMinutes() {
        BarberParliament x = new BarberParliament();
        x.propose(0, 8);
        for (int minutes : new int[] {0, 1, 299, 300}) {
            Check.due("latherAfter(0, " + minutes + ")", x.latherAfter(0, minutes), 0);
        }
    }

    private static void latherNow() {
        BarberParliament x = Check.house("house 1 0 1 0 5 0 0; member a 1 5 0;");
        Check.runAll(x, "propose a 5; repeat 2 (ask a for 0; wait 2;);", 5);
        Check.due("now", x.latherAfter(0, 0), 2);
        Check.due("a minute later", x.latherAfter(0, 1), 1);
        Check.due("five minutes later", x.latherAfter(0, 5), 1);
        Check.due("six minutes later", x.latherAfter(0, 6), 0);
    }

    /** The level rises by twelve speeches, at 21, 41 and so on up to 241, and falls in each minute of thirty. */
    private static void latherAtTheEnd() {
        BarberParliament x = twelveLongSpeeches(0);
        int[][] due = {{20, 0}, {21, 1}, {29, 1}, {30, 0}, {240, 3}, {241, 4}, {269, 4}, {270, 3}, {299, 3}, {300, 2}};
        for (int[] pair : due) {
            Check.due("latherAfter(0, " + pair[0] + ")", x.latherAfter(0, pair[0]), pair[1]);
        }
        Check.due("lather", x.lather(0), 0);
    }

    private static void latherOutOfRange() {
        BarberParliament x = new BarberParliament();
        x.propose(0, 8);
        for (int minutes : new int[] {-1, 301, LEAST, MOST, 256 * 256, -300, 9999}) {
            Check.badArgument(x, "latherAfter(0, " + minutes + ")", () -> x.latherAfter(0, minutes));
        }
    }

    private static void noMotionComesFirst() {
        BarberParliament x = new BarberParliament();
        for (int motion : new int[] {0, -1, 16, LEAST, MOST}) {
            Check.noSuch(x, "latherAfter(" + motion + ", 301)", () -> x.latherAfter(motion, 301));
            Check.noSuch(x, "latherAfter(" + motion + ", -1)", () -> x.latherAfter(motion, -1));
        }
    }

    private static void voteNow() {
        BarberParliament x = Check.house("house 1 0 1 0 2 0 1; member a 1 5 0;");
        x.propose(0, 5);
        Check.due("nothing prevents it", x.minutesUntilVote(0), 0);
        BarberParliament y = Check.house("house 1 0 1 0 3 1 1; member a 1 5 0;");
        Check.runAll(y, "propose a 5; ask a for 0; wait 2;", 3);
        Check.due("nothing prevents it in the minute before it is too dry", y.minutesUntilVote(0), 0);
        y.advance(1);
        Check.due("too dry", y.minutesUntilVote(0), NONE);
    }

    private static void leastMinutes() {
        BarberParliament x = Check.house("house 1 0 3 0 30 1 1; member a 1 5 0;");
        Check.runAll(x, "propose a 5; ask a for 0;", 2);
        Check.due("a request", x.minutesUntilVote(0), 4);
        x.advance(1);
        Check.due("a speech", x.minutesUntilVote(0), 3);
        x.advance(2);
        Check.due("its last minute", x.minutesUntilVote(0), 1);
        x.advance(1);
        Check.due("its end", x.minutesUntilVote(0), 0);
        BarberParliament y = Check.house("house 1 0 3 20 30 0 2; member a 1 5 0; member b 1 15 0; member c 1 10 0;");
        Check.runAll(y, "propose a 15; propose a 10; ask c for 1;", 3);
        Check.due("two voters and a quorum of 2", y.minutesUntilVote(0), 0);
        Check.due("a quorum that a speech makes", y.minutesUntilVote(1), 4);
        Check.due("the latest minute of all", twelveLongSpeeches(4).minutesUntilVote(0), 241);
    }

    private static void neverAVote() {
        Check.due("a level that is not reached", twelveLongSpeeches(5).minutesUntilVote(0), NONE);
        BarberParliament x = Check.house("house 1 0 3 0 30 0 2; member a 9 5 0; member b 1 10 0;");
        Check.runAll(x, "propose a 5; propose a 6; propose a 6; vote 1; withdraw 2;", 5);
        Check.due("no quorum", x.minutesUntilVote(0), NONE);
        Check.due("passed", x.minutesUntilVote(1), NONE);
        Check.due("withdrawn", x.minutesUntilVote(2), NONE);
    }

    private static void forecastsChangeNothing() {
        BarberParliament x = twelveLongSpeeches(4);
        Check.runAll(x, "wait 30; rank contrast;", 2);
        x.save(0);
        String before = Check.brief(x) + Bound.chairs(x) + Bound.requests(x) + Bound.leanings(x, 0);
        IntUnaryOperator[] forecasts = {n -> x.minutesUntilSpeech(11), n -> x.latherAfter(0, n), n -> x.minutesUntilVote(0)};
        for (IntUnaryOperator forecast : forecasts) {
            int first = forecast.applyAsInt(300);
            Check.due("the forecast once more", forecast.applyAsInt(300), first);
            Check.due("the state", Check.brief(x) + Bound.chairs(x) + Bound.requests(x) + Bound.leanings(x, 0), before);
        }
        Check.due("lather", x.lather(0), 0);
        Check.due("restore", x.restore(0), 30);
        Check.due("lather in the slot", x.lather(0), 0);
    }

    private static void beyondTheLastMinute() {
        BarberParliament x = Bound.crowd("house 1 0 20 0 30 1 0;", 2);
        Bound.passToTheEnd(x);
        Check.runAll(x, "propose a 5; ask a for 0; ask b for 0;", 3);
        Check.due("the last minute", x.minute(), 9999);
        Check.due("in minute 10000", x.minutesUntilSpeech(0), 1);
        Check.due("in minute 10020", x.minutesUntilSpeech(1), 21);
        Check.due("in minute 10040, with one drying in 10020", x.latherAfter(0, 41), 2);
        Check.due("in minute 10050", x.latherAfter(0, 51), 1);
        Check.due("in minute 10080", x.latherAfter(0, 81), 0);
        Check.due("in minute 10299", x.latherAfter(0, 300), 0);
        Check.due("in minute 10040", x.minutesUntilVote(0), 41);
        Check.due("the minute stays", x.minute(), 9999);
    }
}
