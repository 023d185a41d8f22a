/** The boundary cases of "Terms", the parts "Minutes" and "Votes". */
public final class BoundsOfMinutesTest {
    private static final String MINUTES = "Terms, Minutes: ";
    private static final String VOTES = "Terms, Votes: ";

    public static void main(String[] args) {
        Check.holds(MINUTES + "the minute is 0 at first", BoundsOfMinutesTest::firstMinute);
        Check.holds(MINUTES + "1. the minute increases by 1", BoundsOfMinutesTest::minuteIncreases);
        Check.holds(MINUTES + "2. a multiple of the drying time (2 to 30)", BoundsOfMinutesTest::dryingTimes);
        Check.holds(MINUTES + "2. the lather level does not decrease below 0", BoundsOfMinutesTest::notBelowZero);
        Check.holds(MINUTES + "2. of each open motion", BoundsOfMinutesTest::openMotionsDry);
        Check.holds(MINUTES + "2. before 3., in the same minute", BoundsOfMinutesTest::dryingComesFirst);
        Check.holds(MINUTES + "3. if the remaining time is 0 then, the speech ends", BoundsOfMinutesTest::remainingTimes);
        Check.holds(MINUTES + "3. in ascending order of the chairs", BoundsOfMinutesTest::orderOfEnds);
        Check.holds(MINUTES + "4. each free chair in ascending order is filled", BoundsOfMinutesTest::orderOfFilling);
        Check.holds(MINUTES + "4. as long as there are requests", BoundsOfMinutesTest::asLongAsThereAreRequests);
        Check.holds(MINUTES + "4. after 3., in the same minute", BoundsOfMinutesTest::fillingComesLast);
        Check.holds(VOTES + "the motion is open", BoundsOfMinutesTest::openMotion);
        Check.holds(VOTES + "its lather level is at least the required level", BoundsOfMinutesTest::requiredLevel);
        Check.holds(VOTES + "the least and the greatest required level", BoundsOfMinutesTest::extremeLevels);
        Check.holds(VOTES + "no speech about it is running", BoundsOfMinutesTest::noSpeechAboutIt);
        Check.holds(VOTES + "the number of voters is at least the quorum", BoundsOfMinutesTest::quorum);
        Check.holds(VOTES + "the least and the greatest quorum", BoundsOfMinutesTest::extremeQuorums);
        Check.holds(VOTES + "voters have a razor sharpness greater than 0", BoundsOfMinutesTest::sharpVoters);
        Check.holds(VOTES + "voters are in favour of it or opposed to it", BoundsOfMinutesTest::decidedVoters);
        Check.holds(VOTES + "the sharpness of each voter's razor decreases by 1", BoundsOfMinutesTest::razors);
        Check.holds(VOTES + "PASSED if the weight for it is greater, otherwise REJECTED", BoundsOfMinutesTest::greaterWeight);
        Check.holds(VOTES + "a tip of 1 coin if the purse contains at least 1 coin", BoundsOfMinutesTest::tipsOfOneCoin);
        Check.holds(VOTES + "a tip of who voted for a passed or against a rejected motion", BoundsOfMinutesTest::tipsOfWinners);
        Check.holds(VOTES + "all requests about the motion are removed from the list", BoundsOfMinutesTest::requestsAreRemoved);
        Check.end();
    }

    private static void firstMinute() {
        Check.due("minute of a new object", new BarberParliament().minute(), 0);
        BarberParliament x = new BarberParliament();
        x.advance(60);
        Check.write(x, Bound.HEAD + "member a 1 0 0;");
        x.load();
        Check.due("minute of a new chamber", x.minute(), 0);
    }

    private static void minuteIncreases() {
        BarberParliament x = new BarberParliament();
        x.advance(1);
        Check.due("after the shortest wait", x.minute(), 1);
        x.advance(60);
        Check.due("after the longest wait", x.minute(), 61);
        BarberParliament y = new BarberParliament();
        Bound.passToTheEnd(y);
        Check.due("the last minute", y.minute(), 9999);
    }

    private static void dryingTimes() {
        BarberParliament x = Check.house("house 1 0 1 0 2 0 0; member a 1 5 0;");
        Check.runAll(x, "propose a 5; wait 1; ask a for 0; wait 2;", 4);
        Check.due("the shortest drying time, minute 3", x.lather(0), 1);
        x.advance(1);
        Check.due("minute 4", x.lather(0), 0);
        BarberParliament y = Check.house("house 1 0 1 0 30 0 0; member a 1 5 0;");
        Check.runAll(y, "propose a 5; repeat 3 (ask a for 0; wait 2;); wait 23;", 8);
        Check.due("the longest drying time, minute 29", y.lather(0), 3);
        y.advance(1);
        Check.due("minute 30", y.lather(0), 2);
        y.advance(29);
        Check.due("minute 59", y.lather(0), 2);
        y.advance(1);
        Check.due("minute 60", y.lather(0), 1);
        BarberParliament z = Check.house("house 1 0 1 0 7 0 0; member a 1 5 0;");
        Check.runAll(z, "propose a 5; wait 21; repeat 3 (ask a for 0; wait 2;);", 8);
        Check.due("a drying time of 7, minute 27", z.lather(0), 3);
        z.advance(1);
        Check.due("minute 28", z.lather(0), 2);
        Bound.setupError(Bound.RANGE, "house 1 0 1 0 |1 0 0;" + Bound.members(1, "1 0 0"));
        Bound.setupError(Bound.RANGE, "house 1 0 1 0 |31 0 0;" + Bound.members(1, "1 0 0"));
    }

    private static void notBelowZero() {
        BarberParliament x = Check.house("house 1 0 1 0 3 0 0; member a 1 5 0;");
        Check.runAll(x, "propose a 5; ask a for 0; wait 2;", 3);
        Check.due("lather", x.lather(0), 1);
        x.advance(1);
        Check.due("1 becomes 0", x.lather(0), 0);
        x.advance(3);
        Check.due("0 stays", x.lather(0), 0);
        x.advance(60);
        Check.due("0 stays for long", x.lather(0), 0);
        Check.runAll(x, "ask a for 0; wait 2;", 2);
        Check.due("and a speech makes it 1", x.lather(0), 1);
    }

    private static void openMotionsDry() {
        BarberParliament x = Check.house("house 4 0 1 0 30 0 0; member a 2 5 0; member b 1 5 0; member c 1 5 0; member d 1 5 0;"
            + "member e 9 20 0;");
        Check.runAll(x, "repeat 16 (propose a 5;); ask a for 0; ask b for 1; ask c for 14; ask d for 15; wait 2;", 21);
        Check.runAll(x, "propose a 5;", 0);
        Check.runAll(x, "ask a for 2; ask b for 3; wait 2; vote 2; withdraw 3; vote 0;", 6);
        x.advance(26);
        Check.due("minute", x.minute(), 30);
        int[] due = {1, 0, 1, 1, 0};
        for (int motion = 0; motion < due.length; motion++) {
            Check.due("lather of motion " + motion, x.lather(motion), due[motion]);
        }
        Check.due("lather of the last but one motion", x.lather(14), 0);
        Check.due("lather of the last motion", x.lather(15), 0);
        x.undo();
        x.advance(25);
        Check.due("the minute before", x.lather(0) + x.lather(1) + x.lather(14) + x.lather(15), 4);
        BarberParliament y = Check.house("house 1 0 1 0 4 0 0; member a 2 5 0;");
        Check.runAll(y, "propose a 5; ask a for 0; wait 2; vote 0; wait 60;", 5);
        Check.due("lather of a passed motion stays", y.lather(0) * 10 + y.motionState(0), 11);
    }

    private static void dryingComesFirst() {
        BarberParliament x = Check.house("house 1 0 1 0 2 0 0; member a 1 5 0;");
        Check.runAll(x, "propose a 5; ask a for 0; wait 2;", 3);
        Check.due("0 stays in the drying, then the speech ends", x.lather(0), 1);
        Check.runAll(x, "ask a for 0; wait 2;", 2);
        Check.due("1 becomes 0, then 1", x.lather(0), 1);
        BarberParliament y = Check.house("house 1 0 1 0 20 0 0; member a 1 5 0;");
        Check.runAll(y, "propose a 5; repeat 9 (ask a for 0; wait 2;); ask a for 0; wait 2;", 21);
        Check.due("9 becomes 8, then 9, in minute 20", y.lather(0), 9);
    }

    private static void remainingTimes() {
        BarberParliament x = Check.house("house 3 0 2 0 30 0 0;" + Bound.members(3, "1 5 0"));
        Check.runAll(x, "propose a 5; ask a for 0; wait 1; ask b for 0; wait 1;", 5);
        Check.due("chairs in minute 2", Bound.chairs(x), "a+0:1 b+0:2 .");
        Check.due("the first ends", x.advance(1), 1);
        Check.due("chairs in minute 3", Bound.chairs(x), ". b+0:1 .");
        Check.due("the second ends", x.advance(1), 1);
        Check.due("nothing runs", x.advance(1), 0);
        Check.due("chairs in minute 5", Bound.chairs(x), ". . .");
    }

    /** Only where a leaning is held at its bound the order of two ends can be seen. */
    private static void orderOfEnds() {
        BarberParliament x = Check.house("house 2 0 1 20 30 0 0;" + Bound.members(3, "1 10 0"));
        Check.runAll(x, "propose a 10; repeat 8 (ask a for 0; wait 2;);", 17);
        Check.due("before", Bound.leanings(x, 0), "5 20 20");
        Check.runAll(x, "ask a for 0; ask b against 0; wait 2;", 3);
        Check.due("c stays at 20, then is moved to 18", Bound.leanings(x, 0), "3 20 18");
        x.undo();
        Check.runAll(x, "ask b against 0; ask a for 0; wait 2;", 3);
        Check.due("c is moved to 18, then to 20", Bound.leanings(x, 0), "3 20 20");
    }

    private static void orderOfFilling() {
        BarberParliament x = Check.house("house 4 0 2 0 30 0 0;" + Bound.members(8, "1 5 0"));
        Check.runAll(x, "propose a 5; ask a for 0; ask b for 0; wait 1; ask c for 0; wait 1;", 6);
        Check.due("chairs in minute 2", Bound.chairs(x), "a+0:1 b+0:1 c+0:2 .");
        Check.runAll(x, "ask d for 0; ask e for 0; ask f for 0; ask g for 0; wait 1;", 5);
        Check.due("the free chairs 0, 1 and 3 are filled", Bound.chairs(x), "d+0:2 e+0:2 c+0:1 f+0:2");
        Check.due("one request is left", Bound.requests(x), "g+0");
    }

    private static void asLongAsThereAreRequests() {
        BarberParliament x = Check.house("house 3 0 2 0 30 0 0;" + Bound.members(8, "1 5 0"));
        x.propose(0, 5);
        x.advance(1);
        Check.due("no request", Bound.chairs(x), ". . .");
        Check.runAll(x, "ask c for 0; ask b for 0; wait 1;", 3);
        Check.due("fewer requests than chairs", Bound.chairs(x), "c+0:2 b+0:2 .");
        Check.runAll(x, "ask a for 0; wait 1;", 2);
        Check.due("one request for one chair", Bound.chairs(x), "c+0:1 b+0:1 a+0:2");
        Check.runAll(x, "ask d for 0; ask e for 0; ask f for 0; wait 1;", 4);
        Check.due("more requests than chairs", Bound.chairs(x) + " " + Bound.requests(x), "d+0:2 e+0:2 a+0:1 f+0");
    }

    private static void fillingComesLast() {
        BarberParliament x = Check.house("house 1 0 1 0 30 0 0;" + Bound.members(3, "1 5 0"));
        Check.runAll(x, "propose a 5; ask a for 0; ask b for 0; wait 1;", 4);
        Check.due("a speech ends", x.advance(1), 1);
        Check.due("the chair is filled in the same minute, with the whole speech time", Bound.chairs(x), "b+0:1");
        Check.due("speechesOf", x.speechesOf(1), 1);
    }

    private static void openMotion() {
        BarberParliament x = Check.house(Bound.HEAD + "member a 2 5 9; member b 1 20 9;");
        Check.runAll(x, "propose a 5; propose b 20; propose a 5; propose a 5; vote 0; vote 1; withdraw 2;", 7);
        for (int motion = 0; motion < 3; motion++) {
            int decided = motion;
            Check.due("obstacle", x.obstacle(motion), BarberParliament.DECIDED);
            Check.badState(x, "vote", () -> x.vote(decided) ? 1 : 0);
        }
        Check.yes("vote on an open motion", x.vote(3));
    }

    private static void requiredLevel() {
        BarberParliament x = Check.house("house 1 0 1 0 30 3 0; member a 1 5 0;");
        Check.runAll(x, "propose a 5; ask a for 0; wait 2; ask a for 0; wait 2;", 5);
        Check.due("a lather level of 2 for 3", x.obstacle(0), BarberParliament.TOO_DRY);
        Check.badState(x, "vote", () -> x.vote(0) ? 1 : 0);
        Check.runAll(x, "ask a for 0; wait 2;", 2);
        Check.due("a lather level of 3 for 3", x.obstacle(0), BarberParliament.MAY_VOTE);
        x.advance(24);
        Check.due("when it has dried", x.obstacle(0), BarberParliament.TOO_DRY);
        x.undo();
        Check.yes("vote", x.vote(0));
    }

    private static void extremeLevels() {
        BarberParliament x = Check.house("house 1 0 1 0 30 0 0; member a 1 5 0;");
        x.propose(0, 5);
        Check.yes("vote at once in a house that requires level 0", x.vote(0));
        BarberParliament y = Check.house("house 1 0 1 0 30 9 0; member a 1 5 0;");
        Check.runAll(y, "propose a 5; repeat 8 (ask a for 0; wait 2;);", 17);
        Check.badState(y, "vote with a lather level of 8 for 9", () -> y.vote(0) ? 1 : 0);
        Check.runAll(y, "ask a for 0; wait 2;", 2);
        Check.yes("vote with a lather level of 9 for 9", y.vote(0));
        Bound.setupError(Bound.RANGE, "house 1 0 1 0 2 |10 0;" + Bound.members(1, "1 0 0"));
    }

    private static void noSpeechAboutIt() {
        BarberParliament x = Check.house("house 4 0 2 0 30 0 0;" + Bound.members(5, "1 5 0"));
        Check.runAll(x, "propose a 5; propose a 5; ask a for 0; ask b for 0; ask c for 0; ask d for 1; ask e for 1; wait 1;", 8);
        Check.due("a speech in the last chair", x.obstacle(1), BarberParliament.SPEECH_RUNNING);
        Check.due("a speech in the first chair", x.obstacle(0), BarberParliament.SPEECH_RUNNING);
        Check.badState(x, "vote", () -> x.vote(1) ? 1 : 0);
        Check.runAll(x, "wait 1; withdraw 0;", 1);
        Check.due("in the last minute", x.obstacle(0), BarberParliament.SPEECH_RUNNING);
        x.advance(1);
        Check.due("when the speeches about it have ended, with others running", x.obstacle(0), BarberParliament.MAY_VOTE);
        Check.due("the speech that has started meanwhile", x.obstacle(1), BarberParliament.SPEECH_RUNNING);
        BarberParliament y = Check.house("house 1 0 2 0 30 0 0;" + Bound.members(5, "1 5 0"));
        Check.runAll(y, "propose a 5; propose a 5; ask a for 1; ask b for 0; wait 1;", 5);
        Check.due("a request alone is no obstacle", y.obstacle(0), BarberParliament.MAY_VOTE);
        Check.yes("vote", y.vote(0));
    }

    private static void quorum() {
        String members = "member a 1 5 0; member b 1 20 0; member c 1 0 0; member d 1 10 0;";
        BarberParliament x = Check.house("house 1 0 1 0 2 0 2;" + members);
        x.propose(0, 5);
        Check.due("two voters and a quorum of 2", x.voterCount(0) * 10 + x.obstacle(0), 20 + BarberParliament.MAY_VOTE);
        BarberParliament y = Check.house("house 1 0 1 0 2 0 3;" + members);
        y.propose(0, 5);
        Check.due("two voters and a quorum of 3", y.voterCount(0) * 10 + y.obstacle(0), 20 + BarberParliament.NO_QUORUM);
        Check.badState(y, "vote without a quorum", () -> y.vote(0) ? 1 : 0);
    }

    private static void extremeQuorums() {
        BarberParliament x = Check.house("house 1 0 1 0 2 0 0; member a 1 5 0;");
        x.propose(0, 10);
        Check.due("no voter and a quorum of 0", x.voterCount(0) * 10 + x.obstacle(0), BarberParliament.MAY_VOTE);
        Check.no("vote without a voter", x.vote(0));
        BarberParliament y = Bound.crowd("house 1 0 1 0 2 0 12;", 12);
        y.propose(0, 5);
        Check.due("twelve voters and a quorum of 12", y.voterCount(0) * 10 + y.obstacle(0), 120 + BarberParliament.MAY_VOTE);
        BarberParliament z = Bound.crowd("house 1 0 1 0 2 0 12;", 11);
        z.propose(0, 5);
        Check.due("eleven voters and a quorum of 12", z.voterCount(0) * 10 + z.obstacle(0), 110 + BarberParliament.NO_QUORUM);
        BarberParliament w = Check.house("house 1 0 1 0 2 0 1; member a 1 5 0;");
        Check.runAll(w, "propose a 10; propose a 5;", 2);
        Check.due("no voter and a quorum of 1", w.obstacle(0), BarberParliament.NO_QUORUM);
        Check.due("one voter and a quorum of 1", w.obstacle(1), BarberParliament.MAY_VOTE);
        Bound.setupError(Bound.RANGE, "house 1 0 1 0 2 0 |13;" + Bound.members(1, "1 0 0"));
    }

    private static void sharpVoters() {
        BarberParliament x = Check.house(Bound.HEAD + "member a 3 5 0; member b 1 0 9;");
        Check.runAll(x, "repeat 7 (propose a 5;); vote 0; vote 1; vote 2; vote 3;", 11);
        Check.due("sharpness", x.sharpness(0), 1);
        Check.due("a voter with a sharpness of 1", x.voterCount(5) * 10 + x.weightFor(5), 13);
        x.vote(4);
        Check.due("sharpness", x.sharpness(0), 0);
        Check.due("none with a sharpness of 0", x.voterCount(5) * 10 + x.weightFor(5), 0);
        Check.due("sharpness of the undecided", x.sharpness(1), 5);
    }

    private static void decidedVoters() {
        BarberParliament x = Check.house(Bound.HEAD + "member a 1 4 0; member b 2 5 0; member c 4 6 0; member d 9 5 0;");
        x.propose(0, 0);
        Check.due("leanings", Bound.leanings(x, 0), "1 0 -1 0");
        Check.due("voterCount", x.voterCount(0), 2);
        x.vote(0);
        Check.due("razors", x.sharpness(0) * 1000 + x.sharpness(1) * 100 + x.sharpness(2) * 10 + x.sharpness(3), 4545);
    }

    private static void razors() {
        BarberParliament x = Check.house(Bound.HEAD + "member a 3 5 0; member b 1 20 9; member c 1 10 9;");
        for (int motion = 0; motion < 6; motion++) {
            x.propose(0, 5);
            x.vote(motion);
            int due = Math.max(0, 4 - motion);
            Check.due("the razor of one in favour", x.sharpness(0), due);
            Check.due("the razor of one opposed", x.sharpness(1), due);
            Check.due("the razor of one undecided", x.sharpness(2), 5);
        }
    }

    private static void greaterWeight() {
        decided("member a 4 5 0; member b 4 15 0;", BarberParliament.REJECTED);
        decided("member a 5 5 0; member b 4 15 0;", BarberParliament.PASSED);
        decided("member a 4 5 0; member b 5 15 0;", BarberParliament.REJECTED);
        decided("member a 4 10 0; member b 5 10 0;", BarberParliament.REJECTED);
        decided("member a 1 5 0;", BarberParliament.PASSED);
        decided("member a 1 15 0;", BarberParliament.REJECTED);
        decided("member a 9 5 0; member b 9 5 0; member c 9 15 0; member d 8 15 0; member e 1 20 0;", BarberParliament.REJECTED);
        decided("member a 9 5 0; member b 9 5 0; member c 9 15 0; member d 8 15 0;", BarberParliament.PASSED);
    }

    private static void decided(String members, int due) {
        BarberParliament x = Check.house(Bound.HEAD + members);
        x.propose(0, 5);
        Check.due("vote of " + members, x.vote(0) ? 1 : 0, due == BarberParliament.PASSED ? 1 : 0);
        Check.due("motionState of " + members, x.motionState(0), due);
    }

    private static void tipsOfOneCoin() {
        BarberParliament x = Check.house(Bound.HEAD + "member a 1 5 0; member b 1 5 1; member c 1 5 2; member d 1 5 99;");
        x.propose(0, 5);
        Check.yes("vote", x.vote(0));
        Check.due("tips", x.tips(), 3);
        int[] due = {0, 0, 1, 98};
        for (int member = 0; member < due.length; member++) {
            Check.due("purse", x.purse(member), due[member]);
        }
        Check.runAll(x, "propose a 20; vote 1;", 2);
        Check.due("tips", x.tips(), 5);
        Check.due("an empty purse", x.purse(1), 0);
    }

    private static void tipsOfWinners() {
        BarberParliament x = Check.house(Bound.HEAD + "member a 3 5 9; member b 2 20 9; member c 1 10 9;");
        x.propose(0, 5);
        Check.yes("vote", x.vote(0));
        Check.due("for a passed one", x.purse(0) * 100 + x.purse(1) * 10 + x.purse(2), 899);
        x.propose(0, 20);
        Check.no("vote", x.vote(1));
        Check.due("against a rejected one", x.purse(0) * 100 + x.purse(1) * 10 + x.purse(2), 798);
        BarberParliament y = Check.house(Bound.HEAD + "member a 3 5 9; member b 3 20 9; member c 1 10 9;");
        y.propose(0, 5);
        Check.no("vote of equal weights", y.vote(0));
        Check.due("against one that is rejected by equal weights", y.purse(0) * 100 + y.purse(1) * 10 + y.purse(2), 989);
    }

    private static void requestsAreRemoved() {
        BarberParliament x = Bound.crowd(Bound.HEAD, 12);
        Check.runAll(x, "propose a 5; propose a 5;", 2);
        for (int member = 0; member < 12; member++) {
            x.request(member, 1, true);
        }
        x.vote(0);
        Check.due("none is removed", x.requestCount(), 12);
        x.vote(1);
        Check.due("all are removed", x.requestCount(), 0);
        Check.due("each may make another", x.propose(0, 5), 2);
        Check.due("request", x.request(11, 2, true), 0);
        BarberParliament y = Bound.crowd(Bound.HEAD, 5);
        Check.runAll(y, "propose a 5; propose a 5; ask a for 0; ask b for 1; ask c against 0; ask d against 1; ask e for 0; vote 0;", 8);
        Check.due("some are removed", Bound.requests(y), "b+1,d-1");
    }
}
