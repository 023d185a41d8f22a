/** Promises 8 and 10 to 16: what is asked about members. */
public final class MembersTest {
    private static final int[] NO_MEMBERS = {-1, 5, 12, Integer.MIN_VALUE, Integer.MAX_VALUE};

    public static void main(String[] args) {
        promise8();
        promises10And11();
        promise12();
        promise13();
        promise14();
        promise15();
        promise16();
        unknownMembers();
        Check.end();
    }

    private static void promise8() {
        Check.due("memberCount of a new object", new BarberParliament().memberCount(), 5);
        Check.due("memberCount", Check.house("house 1 0 1 0 2 0 0; member a 1 0 0;").memberCount(), 1);
        StringBuilder setup = new StringBuilder("house 1 0 1 0 2 0 0;");
        for (char name = 'a'; name <= 'l'; name++) {
            setup.append("member ").append(name).append(" 1 0 0;");
        }
        BarberParliament x = Check.house(setup.toString());
        Check.due("memberCount", x.memberCount(), 12);
        Check.due("weight of the last", x.weight(11), 1);
        Check.noSuch(x, "weight(12)", () -> x.weight(12));
    }

    private static void promises10And11() {
        BarberParliament x = Check.house("house 1 0 1 0 2 0 0; member a 9 20 99; member b 1 0 0; member c 4 3 2;");
        int[] weights = {9, 1, 4};
        int[] purses = {99, 0, 2};
        for (int member = 0; member < 3; member++) {
            Check.due("weight", x.weight(member), weights[member]);
            Check.due("purse", x.purse(member), purses[member]);
        }
        Check.runAll(x, "propose c 3; vote 0; sharpen a;", 3);
        Check.due("purse after a tip and sharpening", x.purse(0), 96);
        Check.due("an empty purse", x.purse(1), 0);
        Check.due("purse after a vote on the other side", x.purse(2), 2);
        Check.due("weight stays", x.weight(0), 9);
    }

    private static void promise12() {
        BarberParliament x = Check.house("house 1 0 1 0 2 0 0; member a 9 5 99; member b 1 5 9; member c 1 0 9;");
        Check.due("sharpness at first", x.sharpness(0), 5);
        for (int i = 1; i <= 5; i++) {
            Check.runAll(x, "propose a 5;", 1);
            x.vote(i - 1);
            Check.due("sharpness after votes", x.sharpness(0), 5 - i);
            Check.due("sharpness of a member without a leaning", x.sharpness(2), 5);
        }
        Check.runAll(x, "propose a 5; vote 5;", 2);
        Check.due("sharpness stays 0", x.sharpness(0), 0);
        x.sharpen(1);
        Check.due("sharpness after sharpening", x.sharpness(1), 5);
        Check.due("sharpness of the other", x.sharpness(0), 0);
    }

    private static void promise13() {
        BarberParliament x = new BarberParliament();
        Check.runAll(x, "propose ada 8; ask cai for 0;", 2);
        Check.due("speeches while waiting", x.speechesOf(2), 0);
        x.advance(1);
        Check.due("speeches when started", x.speechesOf(2), 1);
        x.advance(3);
        Check.due("speeches when ended", x.speechesOf(2), 1);
        Check.runAll(x, "ask cai against 0; wait 1;", 2);
        Check.due("speeches", x.speechesOf(2), 2);
        Check.due("speeches of another", x.speechesOf(1), 0);
    }

    private static void promise14() {
        BarberParliament x = Check.house("house 1 0 1 0 2 0 0; member a 1 0 0; member b 1 20 0; member c 1 5 0;");
        Check.runAll(x, "propose a 0; propose c 20; propose c 10;", 3);
        int[][] leanings = {{5, -15, -5}, {-15, 5, -5}, {0, -10, 0}};
        for (int member = 0; member < 3; member++) {
            for (int motion = 0; motion < 3; motion++) {
                Check.due("leaning", x.leaning(member, motion), leanings[member][motion]);
            }
        }
        Check.noSuch(x, "leaning(0, 3)", () -> x.leaning(0, 3));
        Check.noSuch(x, "leaning(0, -1)", () -> x.leaning(0, -1));
        Check.noSuch(x, "leaning(3, 0)", () -> x.leaning(3, 0));
        Check.noSuch(x, "leaning(-1, 0)", () -> x.leaning(-1, 0));
        Check.noSuch(x, "leaning(-1, -1)", () -> x.leaning(-1, -1));
    }

    private static void promise15() {
        BarberParliament x = new BarberParliament();
        Check.runAll(x, "propose ada 8; ask cai for 0; ask dov against 0; ask eli for 0;", 4);
        Check.due("chairOf a waiting member", x.chairOf(2), BarberParliament.NONE);
        x.advance(1);
        Check.due("chairOf the first", x.chairOf(2), 0);
        Check.due("chairOf the second", x.chairOf(3), 1);
        Check.due("chairOf the waiting third", x.chairOf(4), BarberParliament.NONE);
        Check.due("chairOf a silent member", x.chairOf(0), BarberParliament.NONE);
        x.advance(3);
        Check.due("chairOf the first after the speech", x.chairOf(2), BarberParliament.NONE);
        Check.due("chairOf the third", x.chairOf(4), 0);
    }

    private static void promise16() {
        BarberParliament x = new BarberParliament();
        Check.runAll(x, "propose ada 8; ask cai for 0; ask ada for 0; ask eli for 0;", 4);
        Check.due("place of the first", x.placeInList(2), 0);
        Check.due("place of the second", x.placeInList(0), 1);
        Check.due("place of the third", x.placeInList(4), 2);
        Check.due("place of a member without a request", x.placeInList(1), BarberParliament.NONE);
        x.advance(1);
        Check.due("place of a speaker", x.placeInList(2), BarberParliament.NONE);
        Check.due("place of the third when two speak", x.placeInList(4), 0);
    }

    private static void unknownMembers() {
        for (int member : NO_MEMBERS) {
            BarberParliament x = new BarberParliament();
            x.propose(0, 8);
            Check.noSuch(x, "weight(" + member + ")", () -> x.weight(member));
            Check.noSuch(x, "purse(" + member + ")", () -> x.purse(member));
            Check.noSuch(x, "sharpness(" + member + ")", () -> x.sharpness(member));
            Check.noSuch(x, "speechesOf(" + member + ")", () -> x.speechesOf(member));
            Check.noSuch(x, "leaning(" + member + ", 0)", () -> x.leaning(member, 0));
            Check.noSuch(x, "chairOf(" + member + ")", () -> x.chairOf(member));
            Check.noSuch(x, "placeInList(" + member + ")", () -> x.placeInList(member));
        }
    }
}
