/** Promises 17 to 26: what is asked about motions. */
public final class MotionsTest {
    private static final int[] NO_MOTIONS = {-1, 1, 16, Integer.MIN_VALUE, Integer.MAX_VALUE};

    public static void main(String[] args) {
        promises17And18();
        promise19();
        promise20();
        promises21To23();
        promise24();
        promise24Quorum();
        promise25();
        promise26();
        aFullHouse();
        unknownMotions();
        Check.end();
    }

    private static void promises17And18() {
        BarberParliament x = new BarberParliament();
        Check.due("motionCount", x.motionCount(), 0);
        Check.noSuch(x, "proposer(0)", () -> x.proposer(0));
        for (int motion = 0; motion < 16; motion++) {
            x.propose(motion % 5, motion);
            Check.due("motionCount", x.motionCount(), motion + 1);
        }
        for (int motion = 0; motion < 16; motion++) {
            Check.due("proposer", x.proposer(motion), motion % 5);
        }
        Check.noSuch(x, "proposer(16)", () -> x.proposer(16));
    }

    private static void promise19() {
        BarberParliament x = Check.house("house 1 0 1 0 2 0 0; member a 2 5 9; member b 1 15 9;");
        Check.runAll(x, "propose a 5; propose b 15; propose b 5; propose b 5;", 4);
        Check.runAll(x, "vote 0; vote 1; withdraw 2;", 3);
        Check.due("a passed motion", x.motionState(0), BarberParliament.PASSED);
        Check.due("a rejected motion", x.motionState(1), BarberParliament.REJECTED);
        Check.due("a withdrawn motion", x.motionState(2), BarberParliament.WITHDRAWN);
        Check.due("an open motion", x.motionState(3), BarberParliament.OPEN);
    }

    private static void promise20() {
        BarberParliament x = Check.house("house 1 0 1 20 30 9 0; member a 1 5 0; member b 1 5 0;");
        Check.runAll(x, "propose a 5; propose a 5;", 2);
        for (int speech = 1; speech <= 11; speech++) {
            Check.runAll(x, "ask a for 0; wait 1;", 2);
            Check.due("lather while the speech runs", x.lather(0), Math.min(speech - 1, 9));
            x.advance(1);
            Check.due("lather after speeches", x.lather(0), Math.min(speech, 9));
        }
        Check.due("lather of the other motion", x.lather(1), 0);
        Check.due("the most of the leaning", x.leaning(1, 0), 20);
        x.advance(7);
        Check.due("lather before the drying minute", x.lather(0), 9);
        x.advance(1);
        Check.due("lather after the drying minute", x.lather(0), 8);
        Check.due("lather is not below 0", x.lather(1), 0);
    }

    private static void promises21To23() {
        BarberParliament x = Check.house("house 1 0 1 0 2 0 0; member a 9 5 0; member b 4 5 0; member c 3 0 0;"
            + " member d 2 20 0; member e 1 20 0;");
        x.propose(0, 5);
        Check.due("weightFor", x.weightFor(0), 13);
        Check.due("weightAgainst", x.weightAgainst(0), 3);
        Check.due("voterCount without the undecided", x.voterCount(0), 4);
        Check.runAll(x, "propose c 10;", 1);
        Check.due("weightFor nobody", x.weightFor(1), 0);
        Check.due("weightAgainst", x.weightAgainst(1), 6);
        Check.due("voterCount", x.voterCount(1), 3);
        for (int motion = 2; motion < 7; motion++) {
            x.propose(0, 5);
            x.vote(motion);
        }
        Check.due("sharpness of a voter", x.sharpness(0), 0);
        Check.due("weightFor with blunt razors, of an open motion", x.weightFor(0), 0);
        Check.due("weightAgainst with blunt razors", x.weightAgainst(0), 0);
        Check.due("voterCount with blunt razors", x.voterCount(0), 0);
        Check.due("weightAgainst with one razor", x.weightAgainst(1), 3);
        Check.due("voterCount with one razor", x.voterCount(1), 1);
        x.withdraw(1);
        Check.due("weightAgainst a withdrawn motion", x.weightAgainst(1), 3);
        Check.due("voterCount of a withdrawn motion", x.voterCount(1), 1);
        x.undo();
        x.undo();
        Check.due("weightFor a decided motion", x.weightFor(5), 13);
    }

    private static void promise24() {
        BarberParliament x = Check.house("house 2 0 3 0 30 2 3; member a 1 5 9; member b 1 5 9; member c 1 5 0;");
        x.propose(0, 5);
        Check.due("obstacle: lather 0", x.obstacle(0), BarberParliament.TOO_DRY);
        Check.runAll(x, "ask a for 0; wait 1;", 2);
        Check.due("dryness comes before the speech", x.obstacle(0), BarberParliament.TOO_DRY);
        Check.runAll(x, "wait 2; ask b for 0; wait 1;", 3);
        Check.due("obstacle: lather 1", x.lather(0) * 10 + x.obstacle(0), 10 + BarberParliament.TOO_DRY);
        Check.runAll(x, "ask a for 0; wait 3;", 2);
        Check.due("obstacle: a speech", x.lather(0) * 10 + x.obstacle(0), 20 + BarberParliament.SPEECH_RUNNING);
        Check.runAll(x, "wait 1;", 1);
        Check.due("obstacle: none", x.obstacle(0), BarberParliament.MAY_VOTE);
        x.vote(0);
        Check.due("obstacle: decided", x.obstacle(0), BarberParliament.DECIDED);
        x.propose(0, 5);
        x.withdraw(1);
        Check.due("decided comes before dry", x.obstacle(1), BarberParliament.DECIDED);
    }

    private static void promise24Quorum() {
        BarberParliament x = Check.house("house 2 0 2 0 30 0 3; member a 1 5 9; member b 1 5 9; member c 1 0 9;");
        Check.runAll(x, "propose a 5; propose a 6;", 2);
        Check.due("two voters of three", x.obstacle(0), BarberParliament.NO_QUORUM);
        Check.due("three voters of three", x.obstacle(1), BarberParliament.MAY_VOTE);
        Check.runAll(x, "ask a for 0; wait 1;", 2);
        Check.due("the speech comes before the quorum", x.obstacle(0), BarberParliament.SPEECH_RUNNING);
        Check.due("a speech about another motion", x.obstacle(1), BarberParliament.MAY_VOTE);
        BarberParliament y = Check.house("house 1 0 1 0 2 0 12; member a 1 5 9;");
        y.propose(0, 5);
        Check.due("a quorum above the number of members", y.obstacle(0), BarberParliament.NO_QUORUM);
        BarberParliament z = Check.house("house 1 0 1 0 2 0 0; member a 1 0 9;");
        z.propose(0, 5);
        Check.due("no voter and no quorum", z.obstacle(0), BarberParliament.MAY_VOTE);
        Check.no("vote without voters", z.vote(0));
    }

    private static void promise25() {
        BarberParliament x = Check.house("house 1 0 1 0 2 9 9; member a 4 5 0; member b 3 15 0; member c 1 14 0;");
        Check.runAll(x, "propose a 5; propose a 15; propose a 4; propose a 10;", 4);
        Check.no("wouldPass with equal weights", x.wouldPass(0));
        Check.no("wouldPass against the heaviest", x.wouldPass(1));
        Check.yes("wouldPass when all are undecided but one in favour", x.wouldPass(3));
        BarberParliament y = Check.house("house 1 0 1 0 2 9 9; member a 5 5 0; member b 3 15 0; member c 1 14 0;");
        y.propose(0, 5);
        Check.yes("wouldPass although it is too dry", y.wouldPass(0));
        y.withdraw(0);
        Check.yes("wouldPass although it is withdrawn", y.wouldPass(0));
        BarberParliament z = Check.house("house 1 0 1 0 2 9 9; member a 5 5 0; member b 3 15 0;");
        z.propose(0, 10);
        Check.no("wouldPass when all are undecided", z.wouldPass(0));
    }

    private static void promise26() {
        // For 9 against 6: a turn of 2 or more decides.
        decisive("member a 7 5 0; member b 2 5 0; member c 6 20 0;", 5, 1);
        // For 9 against 5: the one of weight 2 makes it 7 to 7, which is rejected.
        decisive("member a 2 5 0; member b 2 5 0; member c 5 5 0; member d 5 20 0;", 5, 0);
        // For 9 against 4: 2 are too few.
        decisive("member a 2 5 0; member b 7 5 0; member d 4 20 0;", 5, 1);
        // For 5 against 5 is rejected: whoever is against turns it.
        decisive("member a 5 5 0; member b 3 20 0; member c 2 20 0;", 5, 2);
        // For 4 against 6: one against makes 5 to 5, two turn it.
        decisive("member a 4 5 0; member b 1 20 0; member c 3 20 0; member d 2 20 0;", 5, 3);
        // Nobody alone turns 9 to 0 of three.
        decisive("member a 3 5 0; member b 3 5 0; member c 3 5 0;", 5, BarberParliament.NONE);
        decisive("member a 3 5 0;", 5, 0);
        decisive("member a 3 5 0;", 20, 0);
        decisive("member a 3 5 0;", 10, BarberParliament.NONE);
        // The undecided one of weight 1 has no vote to turn.
        decisive("member a 3 5 0; member b 1 0 0; member c 2 20 0;", 5, 0);
        BarberParliament x = Check.house("house 1 0 1 0 2 0 0; member a 3 5 0; member b 1 5 0;");
        Check.runAll(x, "propose a 5; withdraw 0;", 2);
        Check.due("decisiveVoter of a withdrawn motion", x.decisiveVoter(0), 0);
        Check.runAll(x, "repeat 5 (propose a 5;); vote 1; vote 2; vote 3; vote 4; vote 5;", 10);
        Check.due("decisiveVoter with blunt razors", x.decisiveVoter(0), BarberParliament.NONE);
    }

    private static void decisive(String members, int position, int due) {
        BarberParliament x = Check.house("house 1 0 1 0 2 0 0; " + members);
        x.propose(0, position);
        Check.due("decisiveVoter among " + members, x.decisiveVoter(0), due);
    }

    /** With 12 members and 16 motions no row has a place to spare. */
    private static void aFullHouse() {
        StringBuilder setup = new StringBuilder("house 4 5 1 20 30 0 12;");
        for (char name = 'a'; name <= 'l'; name++) {
            setup.append("member ").append(name).append(name < 'l' ? " 1 5 3;" : " 9 0 3;");
        }
        BarberParliament x = Check.house(setup.toString());
        Check.runAll(x, "repeat 16 (propose a 4;);", 16);
        for (int motion = 0; motion < 16; motion++) {
            Check.due("weightFor", x.weightFor(motion), 20);
            Check.due("weightAgainst", x.weightAgainst(motion), 0);
            Check.due("voterCount", x.voterCount(motion), 12);
            Check.due("decisiveVoter", x.decisiveVoter(motion), BarberParliament.NONE);
            Check.yes("the mean of 11 times 4 and 1", x.meanLeaning(motion) == 45.0 / 12.0);
        }
        Check.runAll(x, "ask l against 15; wait 2;", 2);
        Check.due("leaning of the last but one", x.leaning(10, 15), 2);
        Check.due("leaning of the last", x.leaning(11, 15), 1);
        Check.yes("vote", x.vote(15));
        Check.due("tips", x.tips(), 12);
        Check.due("sharpness of the last", x.sharpness(11), 4);
    }

    private static void unknownMotions() {
        for (int motion : NO_MOTIONS) {
            BarberParliament x = new BarberParliament();
            x.propose(0, 8);
            Check.noSuch(x, "leaning(0, " + motion + ")", () -> x.leaning(0, motion));
            Check.noSuch(x, "proposer(" + motion + ")", () -> x.proposer(motion));
            Check.noSuch(x, "motionState(" + motion + ")", () -> x.motionState(motion));
            Check.noSuch(x, "lather(" + motion + ")", () -> x.lather(motion));
            Check.noSuch(x, "weightFor(" + motion + ")", () -> x.weightFor(motion));
            Check.noSuch(x, "weightAgainst(" + motion + ")", () -> x.weightAgainst(motion));
            Check.noSuch(x, "voterCount(" + motion + ")", () -> x.voterCount(motion));
            Check.noSuch(x, "obstacle(" + motion + ")", () -> x.obstacle(motion));
            Check.noSuch(x, "wouldPass(" + motion + ")", () -> x.wouldPass(motion) ? 1 : 0);
            Check.noSuch(x, "decisiveVoter(" + motion + ")", () -> x.decisiveVoter(motion));
            Check.noSuch(x, "meanLeaning(" + motion + ")", () -> (long) x.meanLeaning(motion));
            Check.noSuch(x, "minutesUntilVote(" + motion + ")", () -> x.minutesUntilVote(motion));
            Check.noSuch(x, "latherAfter(" + motion + ", 0)", () -> x.latherAfter(motion, 0));
        }
    }
}
