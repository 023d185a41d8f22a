/** The boundary cases of "Terms", the part "Members and motions". */
public final class BoundsOfMembersTest {
    private static final String TERMS = "Terms, Members and motions: ";
    private static final String HEAD = Bound.HEAD;

    public static void main(String[] args) {
        Check.holds("What it is: an object is used for at most 512 calls", BoundsOfMembersTest::the512thCallIsAnswered);
        Check.holds(TERMS + "each motion is decided at most once", BoundsOfMembersTest::decidedAtMostOnce);
        Check.holds(TERMS + "there are 1 to 12 members", BoundsOfMembersTest::oneToTwelveMembers);
        Check.holds(TERMS + "members are numbered from 0", BoundsOfMembersTest::membersFromZero);
        Check.holds(TERMS + "a name has 1 to 6 lowercase letters", BoundsOfMembersTest::lengthOfNames);
        Check.holds(TERMS + "a name has lowercase letters", BoundsOfMembersTest::lettersOfNames);
        Check.holds(TERMS + "no two members have the same name", BoundsOfMembersTest::differentNames);
        Check.holds(TERMS + "a weight is 1 to 9", BoundsOfMembersTest::weights);
        Check.holds(TERMS + "a member's position is 0 to 20", BoundsOfMembersTest::positions);
        Check.holds(TERMS + "a purse has 0 to 99 coins at first", BoundsOfMembersTest::purses);
        Check.holds(TERMS + "a sharpness is at first 5", BoundsOfMembersTest::sharpnessAtFirst);
        Check.holds(TERMS + "a sharpness is not below 0", BoundsOfMembersTest::leastSharpness);
        Check.holds(TERMS + "there are at most 16 motions", BoundsOfMembersTest::sixteenMotions);
        Check.holds(TERMS + "motions are numbered from 0 in the order in which they are proposed", BoundsOfMembersTest::orderOfMotions);
        Check.holds(TERMS + "a motion's position is 0 to 20", BoundsOfMembersTest::positionsOfMotions);
        Check.holds(TERMS + "a lather level is at first 0", BoundsOfMembersTest::latherAtFirst);
        Check.holds(TERMS + "a lather level is at most 9", BoundsOfMembersTest::mostLather);
        Check.holds(TERMS + "a state is OPEN at first, later PASSED, REJECTED or WITHDRAWN", BoundsOfMembersTest::states);
        Check.holds(TERMS + "a leaning is at first 5 minus the absolute difference of the positions", BoundsOfMembersTest::firstLeanings);
        Check.holds(TERMS + "in favour is a leaning greater than 0", BoundsOfMembersTest::inFavour);
        Check.holds(TERMS + "opposed is a leaning less than 0", BoundsOfMembersTest::opposed);
        Check.end();
    }

    private static void the512thCallIsAnswered() {
        BarberParliament x = new BarberParliament();
        for (int call = 1; call < 511; call += 2) {
            x.propose(call % 5, call % 21);
            x.undo();
        }
        Check.due("propose as the 511th call", x.propose(0, 0), 0);
        Check.due("motionCount as the 512th call", x.motionCount(), 1);
        BarberParliament y = new BarberParliament();
        for (int call = 1; call <= 511; call++) {
            Check.due("advance as call " + call, y.advance(19), 0);
        }
        Check.due("minute as the 512th call", y.minute(), 9709);
        BarberParliament z = new BarberParliament();
        for (int call = 1; call <= 511; call++) {
            Check.due("setRanking as call " + call, z.setRanking(call % 4), (call - 1) % 4);
        }
        Check.due("undo as the 512th call", z.undo(), 7);
    }

    private static void decidedAtMostOnce() {
        BarberParliament x = Check.house(HEAD + "member a 2 5 9; member b 1 20 9;");
        Check.runAll(x, "propose a 5; propose b 20; propose a 5; vote 0; vote 1; withdraw 2;", 6);
        for (int motion = 0; motion < 3; motion++) {
            int decided = motion;
            Check.due("the state", x.motionState(motion), motion + 1);
            Check.badState(x, "vote of a decided motion", () -> x.vote(decided) ? 1 : 0);
            Check.badState(x, "withdraw of a decided motion", () -> x.withdraw(decided));
            Check.due("the state afterwards", x.motionState(motion), motion + 1);
        }
        Check.due("sharpness after two votes", x.sharpness(0), 3);
    }

    private static void oneToTwelveMembers() {
        Check.due("the smallest number", Check.house(HEAD + "member a 1 0 0;").memberCount(), 1);
        Bound.setupError(Bound.SYNTAX, HEAD + "|");
        Bound.setupError(Bound.SYNTAX, HEAD + " \n |");
        Check.due("one less than the largest", Bound.crowd(HEAD, 11).memberCount(), 11);
        Check.due("the largest number", Bound.crowd(HEAD, 12).memberCount(), 12);
        Bound.setupError(Bound.MANY, HEAD + Bound.members(12, "1 0 0") + "|member m 1 0 0;");
    }

    private static void membersFromZero() {
        BarberParliament x = Check.house(HEAD + "member a 9 0 0;");
        Check.due("the only one", x.weight(0), 9);
        Check.noSuch(x, "weight(1) of a house of one", () -> x.weight(1));
        Check.noSuch(x, "weight(-1) of a house of one", () -> x.weight(-1));
        BarberParliament y = Check.house(HEAD + Bound.members(11, "1 0 0") + "member last 8 0 0;");
        Check.due("the last of twelve", y.weight(11), 8);
        Check.due("the last of twelve", Check.find(y, "last"), 11);
        Check.due("the first of twelve", Check.find(y, "a"), 0);
        Check.noSuch(y, "weight(12) of a house of twelve", () -> y.weight(12));
        Check.noSuch(y, "weight(-1) of a house of twelve", () -> y.weight(-1));
    }

    private static void lengthOfNames() {
        BarberParliament x = Check.house(HEAD + "member a 1 0 0; member bcdefg 2 0 0;");
        Check.due("one letter", Check.find(x, "a"), 0);
        Check.due("six letters", Check.find(x, "bcdefg"), 1);
        Check.due("five of the six", Check.find(x, "bcdef"), Bound.NONE);
        Bound.setupError(Bound.RANGE, HEAD + "member |abcdefg 1 0 0;");
        Bound.setupError(Bound.SYNTAX, HEAD + "member |1 0 0;");
        Bound.setupError(Bound.SYNTAX, HEAD + "member |; ");
        Bound.setupError(Bound.SYNTAX, HEAD + "member|");
    }

    private static void lettersOfNames() {
        BarberParliament x = Check.house(HEAD + "member az 1 0 0; member zzzzzz 1 0 0; member aaaaaa 1 0 0;");
        Check.due("the first and the last letter", Check.find(x, "az"), 0);
        Check.due("the last letter", Check.find(x, "zzzzzz"), 1);
        Check.due("the first letter", Check.find(x, "aaaaaa"), 2);
        Bound.setupError(Bound.SYNTAX, HEAD + "member a|` 1 0 0;");
        Bound.setupError(Bound.SYNTAX, HEAD + "member z|{ 1 0 0;");
        Bound.setupError(Bound.SYNTAX, HEAD + "member |A 1 0 0;");
        Bound.setupError(Bound.SYNTAX, HEAD + "member z|Z 1 0 0;");
        Bound.setupError(Bound.SYNTAX, HEAD + "member a|\u00e1 1 0 0;");
    }

    private static void differentNames() {
        Bound.setupError(Bound.NAME, HEAD + "member a 1 0 0; member |a 1 0 0;");
        Bound.setupError(Bound.NAME, HEAD + "member zzzzzz 1 0 0; member |zzzzzz 2 1 1;");
        Bound.setupError(Bound.NAME, HEAD + Bound.members(11, "1 0 0") + "member |a 1 0 0;");
        Bound.setupError(Bound.NAME, HEAD + Bound.members(11, "1 0 0") + "member |k 1 0 0;");
        BarberParliament x = Check.house(HEAD + "member a 1 0 0; member aa 2 0 0; member aaa 3 0 0; member aaaa 4 0 0;"
            + "member aaaaa 5 0 0; member aaaaaa 6 0 0; member ab 7 0 0; member ba 8 0 0;");
        Check.due("names that begin alike", x.memberCount(), 8);
        Check.due("the one of five letters", Check.find(x, "aaaaa"), 4);
        Check.due("the same letters in another order", Check.find(x, "ba"), 7);
    }

    private static void weights() {
        BarberParliament x = Check.house(HEAD + "member a 1 0 0; member b 9 0 0;");
        Check.due("the smallest", x.weight(0), 1);
        Check.due("the largest", x.weight(1), 9);
        Bound.setupError(Bound.RANGE, HEAD + "member a |0 0 0;");
        Bound.setupError(Bound.RANGE, HEAD + "member a |10 0 0;");
        Bound.setupError(Bound.SYNTAX, HEAD + "member a |-1 0 0;");
        for (String number : Bound.wrapped(1)) {
            Bound.setupError(Bound.RANGE, HEAD + "member a |" + number + " 0 0;");
        }
    }

    private static void positions() {
        BarberParliament x = Check.house(HEAD + "member a 1 0 0; member b 1 20 0;");
        x.propose(0, 0);
        x.propose(0, 20);
        Check.due("the smallest and the largest, from 0", Bound.leanings(x, 0), "5 -15");
        Check.due("the smallest and the largest, from 20", Bound.leanings(x, 1), "-15 5");
        Bound.setupError(Bound.RANGE, HEAD + "member a 1 |21 0;");
        Bound.setupError(Bound.SYNTAX, HEAD + "member a 1 |-1 0;");
        for (String number : Bound.wrapped(0)) {
            Bound.setupError(Bound.RANGE, HEAD + "member a 1 |" + number + " 0;");
        }
    }

    private static void purses() {
        BarberParliament x = Check.house(HEAD + "member a 1 0 0; member b 1 0 99;");
        Check.due("the smallest", x.purse(0), 0);
        Check.due("the largest", x.purse(1), 99);
        Bound.setupError(Bound.RANGE, HEAD + "member a 1 0 |100;");
        Bound.setupError(Bound.SYNTAX, HEAD + "member a 1 0 |-1;");
        for (String number : Bound.wrapped(99)) {
            Bound.setupError(Bound.RANGE, HEAD + "member a 1 0 |" + number + ";");
        }
    }

    private static void sharpnessAtFirst() {
        BarberParliament x = Bound.crowd(HEAD, 12);
        for (int member = 0; member < 12; member++) {
            Check.due("sharpness", x.sharpness(member), 5);
        }
    }

    private static void leastSharpness() {
        BarberParliament x = Check.house(HEAD + "member a 9 5 0;");
        for (int motion = 0; motion < 7; motion++) {
            x.propose(0, 5);
            Check.due("passed, as long as there is a voter", x.vote(motion) ? 1 : 0, motion < 5 ? 1 : 0);
            Check.due("sharpness", x.sharpness(0), Math.max(0, 4 - motion));
        }
    }

    private static void sixteenMotions() {
        BarberParliament x = Bound.sixteenMotions();
        Check.due("motionCount", x.motionCount(), 16);
        Check.badState(x, "propose of a 17th", () -> x.propose(0, 8));
        Check.due("motionCount", x.motionCount(), 16);
        x.withdraw(15);
        Check.badState(x, "propose of a 17th when one of the 16 is withdrawn", () -> x.propose(0, 8));
        x.undo();
        x.undo();
        Check.due("propose of the first again", x.propose(0, 8), 0);
        Check.runAll(x, "repeat 14 (propose ada 8;);", 14);
        Check.due("propose of the 16th", x.propose(0, 8), 15);
    }

    private static void orderOfMotions() {
        BarberParliament x = new BarberParliament();
        for (int motion = 0; motion < 16; motion++) {
            Check.due("propose", x.propose(motion % 5, motion), motion);
        }
        for (int motion = 0; motion < 16; motion++) {
            Check.due("proposer", x.proposer(motion), motion % 5);
            Check.due("leaning of ada, at 4", x.leaning(0, motion), 5 - Math.abs(4 - motion));
        }
        Check.noSuch(x, "proposer(16)", () -> x.proposer(16));
        Check.noSuch(x, "proposer(-1)", () -> x.proposer(-1));
    }

    private static void positionsOfMotions() {
        BarberParliament x = new BarberParliament();
        Check.due("the smallest", x.propose(0, 0), 0);
        Check.due("the largest", x.propose(0, 20), 1);
        Check.due("leaning to the smallest", x.leaning(0, 0), 1);
        Check.due("leaning to the largest", x.leaning(0, 1), -11);
        for (int position : new int[] {-1, 21, Bound.LEAST, Bound.MOST, 256, 1 << 16}) {
            Check.badArgument(x, "propose(0, " + position + ")", () -> x.propose(0, position));
        }
    }

    private static void latherAtFirst() {
        BarberParliament x = Check.house("house 1 0 1 0 30 0 0; member a 1 5 9; member b 1 5 9;");
        Check.runAll(x, "propose a 5; ask a for 0; wait 2;", 3);
        x.undo();
        x.propose(0, 5);
        Check.due("lather of a motion whose number had another one", x.lather(0), 0);
        Check.runAll(x, "repeat 9 (ask a for 0; wait 2;); propose a 5;", 19);
        Check.due("lather of the next", x.lather(0) * 10 + x.lather(1), 90);
        for (int motion = 2; motion < 16; motion++) {
            x.propose(0, 5);
            Check.due("lather", x.lather(motion), 0);
        }
    }

    private static void mostLather() {
        BarberParliament x = Check.house("house 4 0 1 0 30 0 0; member a 1 5 9; member b 1 5 9; member c 1 5 9; member d 1 5 9;");
        x.propose(0, 5);
        String fourSpeeches = "ask a for 0; ask b for 0; ask c for 0; ask d for 0; wait 2;";
        int[] due = {4, 8, 9, 9};
        for (int lather : due) {
            Check.runAll(x, fourSpeeches, 5);
            Check.due("lather", x.lather(0), lather);
        }
    }

    private static void states() {
        BarberParliament x = Check.house(HEAD + "member a 2 5 9; member b 1 20 9;");
        Check.runAll(x, "propose a 5; propose b 20; propose a 5; propose a 5;", 4);
        for (int motion = 0; motion < 4; motion++) {
            Check.due("the state at first", x.motionState(motion), BarberParliament.OPEN);
            Check.due("the obstacle at first", x.obstacle(motion), BarberParliament.MAY_VOTE);
        }
        Check.runAll(x, "vote 0; vote 1; withdraw 2;", 3);
        Check.due("passed", x.motionState(0), BarberParliament.PASSED);
        Check.due("rejected", x.motionState(1), BarberParliament.REJECTED);
        Check.due("withdrawn", x.motionState(2), BarberParliament.WITHDRAWN);
        Check.due("open", x.motionState(3), BarberParliament.OPEN);
    }

    private static void firstLeanings() {
        BarberParliament x = Check.house(HEAD + "member a 1 10 0; member b 1 0 0; member c 1 20 0; member d 1 6 0; member e 1 14 0;");
        Check.runAll(x, "propose a 10; propose a 0; propose a 20; propose a 1; propose a 19;", 5);
        Check.due("at 10", Bound.leanings(x, 0), "5 -5 -5 1 1");
        Check.due("at 0, the most is 5 and the least -15", Bound.leanings(x, 1), "-5 5 -15 -1 -9");
        Check.due("at 20", Bound.leanings(x, 2), "-5 -15 5 -9 -1");
        Check.due("at 1", Bound.leanings(x, 3), "-4 4 -14 0 -8");
        Check.due("at 19", Bound.leanings(x, 4), "-4 -14 4 -8 0");
    }

    private static void inFavour() {
        BarberParliament x = Check.house(HEAD + "member a 1 4 0; member b 2 5 0; member c 4 6 0;");
        x.propose(0, 0);
        Check.due("leanings", Bound.leanings(x, 0), "1 0 -1");
        Check.due("weightFor with a leaning of 1, not of 0", x.weightFor(0), 1);
        Check.due("voterCount without a leaning of 0", x.voterCount(0), 2);
    }

    private static void opposed() {
        BarberParliament x = Check.house(HEAD + "member a 1 16 0; member b 2 15 0; member c 4 14 0;");
        x.propose(0, 20);
        Check.due("leanings", Bound.leanings(x, 0), "1 0 -1");
        Check.due("weightAgainst with a leaning of -1, not of 0", x.weightAgainst(0), 4);
        Check.due("voterCount without a leaning of 0", x.voterCount(0), 2);
    }
}
