/** Promise 1. */
public final class NewObjectTest {
    private static final int[] WEIGHTS = {3, 2, 5, 1, 4};
    private static final int[] PURSES = {5, 0, 9, 3, 1};
    private static final int[] POSITIONS = {4, 9, 15, 12, 6};
    private static final String[] NAMES = {"ada", "ben", "cai", "dov", "eli"};
    private static final String SETUP = "house 2 1 3 6 5 2 2; member ada 3 4 5; member ben 2 9 0;"
        + " member cai 5 15 9; member dov 1 12 3; member eli 4 6 1;";

    public static void main(String[] args) {
        nothingHasHappened();
        membersAreThoseOfTheSetup();
        theHouseIsThatOfTheSetup();
        objectsAreIndependent();
        Check.end();
    }

    private static void nothingHasHappened() {
        BarberParliament x = new BarberParliament();
        Check.due("errorCode()", x.errorCode(), 0);
        Check.due("errorPosition()", x.errorPosition(), BarberParliament.NONE);
        Check.due("motionCount()", x.motionCount(), 0);
        Check.due("requestCount()", x.requestCount(), 0);
        Check.due("minute()", x.minute(), 0);
        Check.due("ranking()", x.ranking(), BarberParliament.ARRIVAL);
        Check.due("tips()", x.tips(), 0);
        Check.due("voteCount()", x.voteCount(), 0);
        Check.due("rebuttalCount()", x.rebuttalCount(), 0);
        Check.due("undoCount()", x.undoCount(), 0);
        Check.due("outputByte(0)", x.outputByte(0), BarberParliament.NONE);
        Check.due("an empty buffer", x.append(0, 0, 0, 0, 0), 0);
        Check.noElement(x, "restore(0)", () -> x.restore(0));
        Check.noElement(x, "restore(1)", () -> x.restore(1));
    }

    private static void membersAreThoseOfTheSetup() {
        BarberParliament x = new BarberParliament();
        Check.due("memberCount()", x.memberCount(), 5);
        x.propose(0, 0);
        for (int member = 0; member < 5; member++) {
            Check.due("the number of " + NAMES[member], Check.find(x, NAMES[member]), member);
            Check.due("weight", x.weight(member), WEIGHTS[member]);
            Check.due("purse", x.purse(member), PURSES[member]);
            Check.due("sharpness", x.sharpness(member), 5);
            Check.due("speechesOf", x.speechesOf(member), 0);
            Check.due("leaning tells the position", x.leaning(member, 0), 5 - POSITIONS[member]);
        }
    }

    private static void theHouseIsThatOfTheSetup() {
        BarberParliament fresh = new BarberParliament();
        BarberParliament loaded = Check.house(SETUP);
        Check.due("chairCount()", fresh.chairCount(), 2);
        Check.due("freeMirrors()", fresh.freeMirrors(), 1);
        String script = "propose ada 8; ask cai against 0; ask ben for 0; wait 1; rebut ada 0; ask dov for 0; wait 3;"
            + " ask eli for 0; wait 6; propose cai 0;";
        Check.runAll(fresh, script, 10);
        Check.runAll(loaded, script, 10);
        for (int minute = 0; minute < 12; minute += 4) {
            Check.due("the state " + minute + " minutes later", Check.state(fresh), Check.state(loaded));
            fresh.advance(4);
            loaded.advance(4);
        }
    }

    private static void objectsAreIndependent() {
        BarberParliament x = new BarberParliament();
        BarberParliament y = new BarberParliament();
        x.propose(0, 5);
        x.append('a' << 24, 0, 0, 0, 0);
        x.save(0);
        Check.due("motionCount() of another object", y.motionCount(), 0);
        Check.due("the buffer of another object", y.append(0, 0, 0, 0, 0), 0);
        Check.noElement(y, "restore(0) of another object", () -> y.restore(0));
    }
}
