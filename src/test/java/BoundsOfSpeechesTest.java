/** The boundary cases of "Terms", the part "Requests and speeches". */
public final class BoundsOfSpeechesTest {
    private static final String TERMS = "Terms, Requests and speeches: ";
    private static final int NONE = Bound.NONE;

    public static void main(String[] args) {
        Check.holds(TERMS + "a member can request to speak about an open motion", BoundsOfSpeechesTest::openMotions);
        Check.holds(TERMS + "a member has at most one request or running speech at a time", BoundsOfSpeechesTest::oneAtATime);
        Check.holds(TERMS + "requests wait in one list in the order in which they are made (none and all)", BoundsOfSpeechesTest::theList);
        Check.holds(TERMS + "requests wait in one list in the order in which they are made (some removed)", BoundsOfSpeechesTest::orderIsKept);
        Check.holds(TERMS + "there are 1 to 4 chairs", BoundsOfSpeechesTest::oneToFourChairs);
        Check.holds(TERMS + "chairs are numbered from 0", BoundsOfSpeechesTest::chairsFromZero);
        Check.holds(TERMS + "a speech needs a chair for the speech time (1 to 20)", BoundsOfSpeechesTest::speechTimes);
        Check.holds(TERMS + "of requests that are equal the earliest comes first (HEAVIEST)", BoundsOfSpeechesTest::equallyHeavy);
        Check.holds(TERMS + "of requests that are equal the earliest comes first (QUIETEST)", BoundsOfSpeechesTest::equallyQuiet);
        Check.holds(TERMS + "of requests that are equal the earliest comes first (CONTRAST)", BoundsOfSpeechesTest::equalContrast);
        Check.holds(TERMS + "the greatest weight, 9, and the least, 1", BoundsOfSpeechesTest::extremeWeights);
        Check.holds(TERMS + "if no speech about a motion has started, its requests are among the others", BoundsOfSpeechesTest::noSpeechYet);
        Check.holds(TERMS + "the latest speech that started about the same motion", BoundsOfSpeechesTest::latestSpeech);
        Check.holds(TERMS + "a running speech can be rebutted once", BoundsOfSpeechesTest::rebuttedOnce);
        Check.holds(TERMS + "a rebuttal occupies one mirror until the speech ends", BoundsOfSpeechesTest::oneMirror);
        Check.holds(TERMS + "positions that differ by at most the reach", BoundsOfSpeechesTest::reach);
        Check.holds(TERMS + "the least and the greatest reach", BoundsOfSpeechesTest::extremeReach);
        Check.holds(TERMS + "each member other than the speaker", BoundsOfSpeechesTest::notTheSpeaker);
        Check.holds(TERMS + "by 2 towards the side of the speech, or by 1 if the speech was rebutted", BoundsOfSpeechesTest::changesOfLeanings);
        Check.holds(TERMS + "a leaning stays at most 20", BoundsOfSpeechesTest::mostLeaning);
        Check.holds(TERMS + "a leaning stays at least -20", BoundsOfSpeechesTest::leastLeaning);
        Check.holds(TERMS + "the lather level increases by 1, but not above 9", BoundsOfSpeechesTest::latherNotAboveNine);
        Check.holds(TERMS + "the chair and the mirror become free", BoundsOfSpeechesTest::becomeFree);
        Check.end();
    }

    private static void openMotions() {
        BarberParliament x = Check.house(Bound.HEAD + "member a 2 5 9; member b 1 20 9;");
        Check.runAll(x, "propose a 5; propose b 20; propose a 5; propose a 5; vote 0; vote 1; withdraw 2;", 7);
        Check.badState(x, "request about a passed motion", () -> x.request(0, 0, true));
        Check.badState(x, "request about a rejected motion", () -> x.request(0, 1, false));
        Check.badState(x, "request about a withdrawn motion", () -> x.request(1, 2, true));
        Check.due("request about an open motion", x.request(0, 3, true), 0);
    }

    private static void oneAtATime() {
        BarberParliament x = Check.house("house 1 0 2 0 30 0 0; member a 2 5 9; member b 1 20 9;");
        Check.runAll(x, "propose a 5; propose a 6; ask a for 0;", 3);
        Check.badState(x, "a second request about the same motion", () -> x.request(0, 0, true));
        Check.badState(x, "a second request about another motion", () -> x.request(0, 1, false));
        Check.due("a request of another member", x.request(1, 0, true), 1);
        x.advance(1);
        Check.badState(x, "a request of the speaker", () -> x.request(0, 1, true));
        x.advance(1);
        Check.badState(x, "a request of the speaker in the last minute", () -> x.request(0, 1, true));
        x.advance(1);
        Check.due("a request as soon as the speech has ended", x.request(0, 1, true), 0);
        Check.badState(x, "a request of the next speaker", () -> x.request(1, 1, true));
        x.withdraw(1);
        Check.due("a request after the withdrawal of the motion of the former", x.request(0, 0, true), 0);
    }

    private static void theList() {
        BarberParliament x = Bound.crowd(Bound.HEAD, 12);
        x.propose(0, 5);
        Check.due("nothing in the list", Bound.requests(x), "");
        for (int place = 0; place < 12; place++) {
            Check.due("request", x.request(11 - place, 0, place % 2 == 0), place);
        }
        Check.due("all in the list", Bound.requests(x), "l+0,k-0,j+0,i-0,h+0,g-0,f+0,e-0,d+0,c-0,b+0,a-0");
        Check.due("requestCount", x.requestCount(), 12);
        for (int member = 0; member < 12; member++) {
            Check.due("placeInList", x.placeInList(member), 11 - member);
        }
        for (int minute = 1; minute <= 12; minute++) {
            x.advance(1);
            Check.due("requestCount", x.requestCount(), 12 - minute);
        }
        Check.due("nothing in the list", Bound.requests(x), "");
    }

    private static void orderIsKept() {
        BarberParliament x = Bound.crowd(Bound.HEAD, 6);
        Check.runAll(x, "propose a 5; propose a 5; propose a 5; ask a for 0; ask b for 1; ask c for 2; ask d for 1; ask e for 2; ask f for 0;", 9);
        Check.due("withdraw of the first and the last in the list", x.withdraw(0), 2);
        Check.due("the list", Bound.requests(x), "b+1,c+2,d+1,e+2");
        x.undo();
        Check.due("withdraw of some between", x.withdraw(1), 2);
        Check.due("the list", Bound.requests(x), "a+0,c+2,e+2,f+0");
        Check.due("a new one is the last", x.request(1, 2, false), 4);
        Check.runAll(x, "rank contrast; wait 1;", 2);
        Check.due("the list without the first", Bound.requests(x), "c+2,e+2,f+0,b-2");
        Check.due("withdraw of all but one", x.withdraw(2), 3);
        Check.due("the list", Bound.requests(x), "f+0");
    }

    private static void oneToFourChairs() {
        Check.due("the smallest number", Bound.crowd("house 1 0 1 0 2 0 0;", 1).chairCount(), 1);
        Check.due("the largest number", Bound.crowd("house 4 0 1 0 2 0 0;", 1).chairCount(), 4);
        Bound.setupError(Bound.RANGE, "house |0 0 1 0 2 0 0;" + Bound.members(1, "1 0 0"));
        Bound.setupError(Bound.RANGE, "house |5 0 1 0 2 0 0;" + Bound.members(1, "1 0 0"));
        BarberParliament x = Bound.crowd("house 4 0 1 0 2 0 0;", 6);
        Check.runAll(x, "propose a 5; ask f for 0; ask e for 0; ask d for 0; ask c for 0; ask b for 0; wait 1;", 7);
        Check.due("all chairs are taken", Bound.chairs(x), "f+0:1 e+0:1 d+0:1 c+0:1");
        BarberParliament y = Bound.crowd("house 1 0 1 0 2 0 0;", 6);
        Check.runAll(y, "propose a 5; ask f for 0; ask e for 0; wait 1;", 4);
        Check.due("the only chair is taken", Bound.chairs(y), "f+0:1");
    }

    private static void chairsFromZero() {
        for (int chairs = 1; chairs <= 4; chairs++) {
            BarberParliament x = Bound.crowd("house " + chairs + " 5 3 0 30 0 0;", 6);
            Check.runAll(x, "propose a 20; propose a 5; ask a for 0; ask b for 0; ask c for 0; ask d for 0; wait 1;", 7);
            int none = chairs;
            for (int chair = 0; chair < chairs; chair++) {
                Check.due("speaker", x.speaker(chair), chair);
            }
            Check.noSuch(x, "speaker behind the last chair of " + chairs, () -> x.speaker(none));
            Check.noSuch(x, "rebut behind the last chair of " + chairs, () -> x.rebut(5, none));
            Check.noSuch(x, "speaker before the first chair", () -> x.speaker(-1));
            Check.due("rebut at the last chair", x.rebut(5, chairs - 1), 4);
        }
    }

    private static void speechTimes() {
        BarberParliament x = Bound.crowd("house 1 0 1 0 30 0 0;", 2);
        Check.runAll(x, "propose a 5; ask a for 0; wait 1;", 3);
        Check.due("the shortest speech at its start", x.remainingTime(0), 1);
        Check.due("it ends a minute later", x.advance(1), 1);
        BarberParliament y = Bound.crowd("house 1 0 20 0 30 0 0;", 2);
        Check.runAll(y, "propose a 5; ask a for 0; wait 1;", 3);
        Check.due("the longest speech at its start", y.remainingTime(0), 20);
        Check.due("it goes on for 19 minutes", y.advance(19), 0);
        Check.due("the last minute", y.remainingTime(0), 1);
        Check.due("it ends after 20", y.advance(1), 1);
        Check.due("a free chair", y.remainingTime(0), 0);
        Bound.setupError(Bound.RANGE, "house 1 0 |0 0 2 0 0;" + Bound.members(1, "1 0 0"));
        Bound.setupError(Bound.RANGE, "house 1 0 |21 0 2 0 0;" + Bound.members(1, "1 0 0"));
    }

    private static void equallyHeavy() {
        BarberParliament x = Check.house(Bound.HEAD + "member a 4 5 0; member b 4 5 0; member c 3 5 0; member d 4 5 0;");
        Check.runAll(x, "propose a 5; rank heaviest; ask c for 0; ask d for 0; ask a for 0; ask b for 0;", 6);
        speakers(x, "d+0:1", "a+0:1", "b+0:1", "c+0:1");
    }

    private static void equallyQuiet() {
        BarberParliament x = Check.house("house 1 0 1 0 30 0 0; member a 4 5 0; member b 4 5 0; member c 3 5 0; member d 4 5 0;");
        Check.runAll(x, "propose a 5; rank quietest; ask a for 0; wait 2; ask a for 0; ask d for 0; ask c for 0; ask b for 0;", 8);
        speakers(x, "d+0:1", "c+0:1", "b+0:1", "a+0:1");
        Check.runAll(x, "wait 1; ask a for 0; ask c for 0; ask b for 0; ask d for 0;", 5);
        speakers(x, "c+0:1", "b+0:1", "d+0:1", "a+0:1");
    }

    private static void equalContrast() {
        BarberParliament x = Check.house("house 1 0 1 0 30 0 0;" + Bound.members(6, "1 5 0"));
        Check.runAll(x, "propose a 5; propose a 5; rank contrast; ask a for 0; wait 2;", 5);
        Check.runAll(x, "ask a for 0; ask b for 1; ask c against 0; ask d against 0; ask e against 1;", 5);
        // Only c and d contrast; after c's speech a does, after a's d again; then b, and e after it.
        speakers(x, "c-0:1", "a+0:1", "d-0:1", "b+1:1", "e-1:1");
    }

    private static void speakers(BarberParliament x, String... chairs) {
        for (String due : chairs) {
            x.advance(1);
            Check.due("the chairs", Bound.chairs(x), due);
        }
    }

    private static void extremeWeights() {
        BarberParliament x = Check.house(Bound.HEAD + "member a 1 5 0; member b 9 5 0; member c 8 5 0;");
        Check.runAll(x, "propose a 5; rank heaviest; ask a for 0; ask c for 0; ask b for 0;", 5);
        speakers(x, "b+0:1", "c+0:1", "a+0:1", ".");
    }

    private static void noSpeechYet() {
        String house = "house 1 0 1 0 30 0 0;" + Bound.members(6, "1 5 0");
        BarberParliament fresh = Check.house(house);
        Check.runAll(fresh, "propose a 5; propose a 5; ask a for 1; ask b against 0; ask c against 1;", 5);
        Check.due("the earliest when no speech at all has started", fresh.firstBy(BarberParliament.CONTRAST), 0);
        BarberParliament x = Check.house(house);
        Check.runAll(x, "propose a 5; propose a 5; propose a 5; ask a for 0; wait 2;", 5);
        Check.runAll(x, "ask b against 1; ask c for 0; ask d for 2;", 3);
        Check.due("a motion without a speech against one that has had a speech for it", x.firstBy(BarberParliament.CONTRAST), 1);
        Check.runAll(x, "ask e against 0;", 1);
        Check.due("a contrast", x.firstBy(BarberParliament.CONTRAST), 4);
        BarberParliament y = Check.house(house);
        Check.runAll(y, "propose a 5; ask a for 0; wait 2;", 3);
        Check.runAll(y, "propose a 5; ask b for 0; ask c for 1; ask d against 1;", 4);
        Check.due("requests for and against a motion without a speech", y.firstBy(BarberParliament.CONTRAST), 1);
    }

    private static void latestSpeech() {
        BarberParliament x = Check.house("house 2 0 2 0 30 0 0;" + Bound.members(6, "1 5 0"));
        Check.runAll(x, "propose a 5; ask a for 0; ask b against 0; wait 1; ask c for 0; ask d against 0;", 6);
        Check.due("of two that start in one minute the one in the higher chair is the latest", x.firstBy(BarberParliament.CONTRAST), 2);
        x.advance(2);
        Check.due("then it is that of d", Bound.chairs(x), "c+0:2 d-0:2");
        Check.runAll(x, "wait 2; ask a against 0; ask b for 0;", 3);
        Check.due("it counts when it has ended, too", x.firstBy(BarberParliament.CONTRAST), 1);
    }

    private static void rebuttedOnce() {
        BarberParliament x = Check.house("house 2 5 2 0 30 0 0; member a 1 5 0; member b 1 20 0; member c 1 20 0;");
        Check.runAll(x, "propose a 5; ask a for 0; wait 1;", 3);
        Check.due("the first rebuttal", x.rebut(1, 0), 4);
        Check.badState(x, "a second rebuttal by another member", () -> x.rebut(2, 0));
        Check.badState(x, "a second rebuttal by the same member", () -> x.rebut(1, 0));
        x.advance(1);
        Check.badState(x, "a second rebuttal a minute later", () -> x.rebut(2, 0));
        Check.runAll(x, "wait 1; ask a for 0; wait 1;", 3);
        Check.no("the next speech from this chair", x.isRebutted(0));
        Check.due("its first rebuttal", x.rebut(1, 0), 4);
        Check.due("rebuttalCount", x.rebuttalCount(), 2);
    }

    private static void oneMirror() {
        BarberParliament x = Check.house("house 2 1 3 0 30 0 0; member a 1 5 0; member b 1 5 0; member c 1 20 0;");
        Check.runAll(x, "propose a 5; ask a for 0; wait 1; ask b for 0; wait 1;", 5);
        Check.due("the only mirror", x.rebut(2, 0), 0);
        Check.badState(x, "rebut without a mirror", () -> x.rebut(2, 1));
        x.advance(1);
        Check.due("in the last minute of the speech", x.freeMirrors(), 0);
        Check.badState(x, "rebut in that minute", () -> x.rebut(2, 1));
        x.advance(1);
        Check.due("when it has ended", x.freeMirrors(), 1);
        Check.due("the mirror is used again", x.rebut(2, 1), 0);
        BarberParliament y = Check.house("house 1 0 3 0 30 0 0; member a 1 5 0; member b 1 20 0;");
        Check.runAll(y, "propose a 5; ask a for 0; wait 1;", 3);
        Check.badState(y, "rebut in a house without mirrors", () -> y.rebut(1, 0));
        BarberParliament z = Check.house("house 4 5 3 0 30 0 0;" + Bound.members(4, "1 5 0") + "member z 1 20 0;");
        Check.runAll(z, "propose a 5; ask a for 0; ask b for 0; ask c for 0; ask d for 0; wait 1;", 6);
        for (int chair = 0; chair < 4; chair++) {
            Check.due("as many rebuttals as there are chairs", z.rebut(4, chair), 4 - chair);
        }
        Check.due("one of five mirrors is left", z.freeMirrors(), 1);
        z.advance(3);
        Check.due("all are free", z.freeMirrors(), 5);
    }

    private static void reach() {
        BarberParliament x = Check.house("house 1 0 1 6 30 0 0; member s 1 10 0; member a 1 16 0; member b 1 17 0; member c 1 4 0;"
            + "member d 1 3 0; member e 1 15 0;");
        Check.runAll(x, "propose s 10; ask s for 0; wait 1;", 3);
        Check.due("before the speech ends", Bound.leanings(x, 0), "5 -1 -2 -1 -2 0");
        x.advance(1);
        Check.due("6 away is within the reach, 7 is not", Bound.leanings(x, 0), "5 1 -2 1 -2 2");
    }

    private static void extremeReach() {
        String members = "member s 1 0 0; member a 1 0 0; member b 1 1 0; member c 1 19 0; member d 1 20 0;";
        int[] reaches = {0, 1, 19, 20};
        String[] due = {"5 3 4 -14 -15", "5 3 2 -14 -15", "5 3 2 -16 -15", "5 3 2 -16 -17"};
        for (int i = 0; i < reaches.length; i++) {
            BarberParliament x = Check.house("house 1 0 1 " + reaches[i] + " 30 0 0;" + members);
            Check.runAll(x, "propose s 0; ask s against 0; wait 2;", 3);
            Check.due("a reach of " + reaches[i], Bound.leanings(x, 0), due[i]);
        }
        Bound.setupError(Bound.RANGE, "house 1 0 1 |21 2 0 0;" + Bound.members(1, "1 0 0"));
    }

    private static void notTheSpeaker() {
        BarberParliament x = Check.house("house 1 1 1 20 30 0 0; member s 1 10 0;");
        Check.runAll(x, "propose s 10; ask s against 0; wait 2;", 3);
        Check.due("a speaker alone", Bound.leanings(x, 0), "5");
        Check.due("lather", x.lather(0), 1);
        BarberParliament y = Check.house("house 1 1 1 20 30 0 0; member a 1 10 0; member s 1 10 0; member b 1 10 0;");
        Check.runAll(y, "propose a 10; ask s against 0; wait 2;", 3);
        Check.due("a speaker among others at the same place", Bound.leanings(y, 0), "3 5 3");
    }

    /** A leaning of 0, one on each side of it, and those that pass it. */
    private static void changesOfLeanings() {
        String[] scripts = {"ask s for 0; wait 2;", "ask s for 0; wait 1; rebut d 0; wait 1;", "ask s against 0; wait 2;",
            "ask s against 0; wait 1; rebut a 0; wait 1;"};
        String[] due = {"5 3 2 1 0", "5 2 1 0 -1", "5 -1 -2 -3 -4", "5 0 -1 -2 -3"};
        for (int i = 0; i < scripts.length; i++) {
            BarberParliament x = Check.house("house 1 1 1 20 30 0 0; member s 1 0 0; member a 1 4 0; member b 1 5 0; member c 1 6 0;"
                + "member d 1 7 0;");
            x.propose(0, 0);
            Check.due("leanings before", Bound.leanings(x, 0), "5 1 0 -1 -2");
            Check.yes("runScript", Check.run(x, scripts[i]) >= 2);
            Check.due("leanings after " + scripts[i], Bound.leanings(x, 0), due[i]);
        }
    }

    private static void mostLeaning() {
        BarberParliament x = Check.house("house 1 1 1 20 30 0 0; member a 1 10 0; member b 1 10 0; member c 1 11 0; member z 1 20 0;");
        Check.runAll(x, "propose a 10; repeat 7 (ask a for 0; wait 2;);", 15);
        Check.due("after seven speeches", Bound.leanings(x, 0), "5 19 18 9");
        Check.runAll(x, "ask a for 0; wait 2;", 2);
        Check.due("19 becomes 20, and 18 too", Bound.leanings(x, 0), "5 20 20 11");
        Check.runAll(x, "ask a for 0; wait 2;", 2);
        Check.due("20 stays", Bound.leanings(x, 0), "5 20 20 13");
        BarberParliament y = Check.house("house 1 1 1 5 30 0 0; member a 1 10 0; member b 1 10 0; member z 1 20 0;");
        Check.runAll(y, "propose a 10; repeat 8 (ask a for 0; wait 2;); ask a for 0; wait 1; rebut z 0; wait 1;", 21);
        Check.due("20 stays when the speech is rebutted", Bound.leanings(y, 0), "5 20 -5");
    }

    private static void leastLeaning() {
        BarberParliament x = Check.house("house 1 1 1 20 30 0 0; member a 1 0 0; member b 1 20 0; member c 1 19 0; member d 1 0 0;");
        Check.runAll(x, "propose a 0; ask a against 0; wait 2;", 3);
        Check.due("after a speech", Bound.leanings(x, 0), "5 -17 -16 3");
        Check.runAll(x, "ask a against 0; wait 2;", 2);
        Check.due("-19 is not yet the least", Bound.leanings(x, 0), "5 -19 -18 1");
        Check.runAll(x, "ask a against 0; wait 2;", 2);
        Check.due("-19 becomes -20, and -18 too", Bound.leanings(x, 0), "5 -20 -20 -1");
        Check.runAll(x, "ask a against 0; wait 2;", 2);
        Check.due("-20 stays", Bound.leanings(x, 0), "5 -20 -20 -3");
        Check.runAll(x, "ask d against 0; wait 1; rebut a 0; wait 1;", 4);
        Check.due("-20 stays when the speech is rebutted", Bound.leanings(x, 0), "4 -20 -20 -3");
    }

    private static void latherNotAboveNine() {
        BarberParliament x = Check.house("house 2 0 1 0 30 0 0; member a 1 0 0; member b 1 20 0;");
        Check.runAll(x, "propose a 0; propose a 0; repeat 8 (ask a for 0; wait 2;);", 18);
        Check.due("lather", x.lather(0), 8);
        Check.runAll(x, "ask a for 0; wait 2;", 2);
        Check.due("8 becomes 9", x.lather(0), 9);
        Check.runAll(x, "ask a for 0; wait 2;", 2);
        Check.due("9 stays", x.lather(0), 9);
        BarberParliament y = Check.house("house 2 0 1 0 30 0 0; member a 1 0 0; member b 1 20 0;");
        Check.runAll(y, "propose a 0; repeat 8 (ask a for 0; wait 2;); ask a for 0; ask b for 0; wait 2;", 20);
        Check.due("8 becomes 9 when two speeches end in a minute", y.lather(0), 9);
    }

    private static void becomeFree() {
        BarberParliament x = Check.house("house 1 1 2 0 30 0 0; member a 1 5 0; member b 1 20 0;");
        Check.runAll(x, "propose a 5; ask a for 0; wait 1; rebut b 0; wait 1;", 5);
        Check.due("in the last minute", Bound.chairs(x) + " " + x.freeMirrors(), "a+0!:1 0");
        x.advance(1);
        Check.due("afterwards", Bound.chairs(x) + " " + x.freeMirrors(), ". 1");
        Check.due("speaker", x.speaker(0), NONE);
        Check.due("chairOf", x.chairOf(0), NONE);
        Check.no("isRebutted", x.isRebutted(0));
        BarberParliament y = Check.house("house 1 1 2 0 30 0 0; member a 1 5 0; member b 1 20 0; member c 1 5 0;");
        Check.runAll(y, "propose a 5; ask a for 0; ask c for 0; wait 1; rebut b 0; wait 2;", 6);
        Check.due("the next speech is not rebutted", Bound.chairs(y) + " " + y.freeMirrors(), "c+0:2 1");
    }
}
