/** Promises 27 to 36: what is asked about chairs and requests. */
public final class ChairsTest {
    private static final int[] NO_CHAIRS = {-1, 2, 4, Integer.MIN_VALUE, Integer.MAX_VALUE};

    public static void main(String[] args) {
        promise27();
        promise28();
        promise29();
        promise30();
        promise31();
        promises32To35();
        promise36();
        promise36Contrast();
        promise36Quietest();
        unknownChairs();
        Check.end();
    }

    private static void promise27() {
        for (int chairs = 1; chairs <= 4; chairs++) {
            BarberParliament x = Check.house("house " + chairs + " 0 1 0 2 0 0; member a 1 0 0;");
            int none = chairs;
            Check.due("chairCount", x.chairCount(), chairs);
            Check.due("speaker of the last chair", x.speaker(chairs - 1), BarberParliament.NONE);
            Check.noSuch(x, "speaker behind the last chair", () -> x.speaker(none));
        }
    }

    private static void promise28() {
        BarberParliament x = new BarberParliament();
        Check.due("minute", x.minute(), 0);
        x.advance(7);
        Check.due("minute", x.minute(), 7);
        x.advance(60);
        Check.due("minute", x.minute(), 67);
    }

    private static void promise29() {
        for (int mirrors = 0; mirrors <= 5; mirrors++) {
            Check.due("freeMirrors", Check.house("house 1 " + mirrors + " 1 0 2 0 0; member a 1 0 0;").freeMirrors(), mirrors);
        }
        BarberParliament x = Check.house("house 2 3 2 0 30 0 0; member a 1 5 0; member b 1 5 0; member c 1 15 0;");
        Check.runAll(x, "propose a 5; ask a for 0; wait 1; ask b for 0; wait 1; rebut c 1;", 6);
        Check.due("freeMirrors", x.freeMirrors(), 2);
        Check.runAll(x, "wait 1;", 1);
        Check.due("freeMirrors after a speech without rebuttal", x.freeMirrors(), 2);
        Check.runAll(x, "wait 1;", 1);
        Check.due("freeMirrors after the rebutted speech", x.freeMirrors(), 3);
    }

    private static void promise30() {
        BarberParliament x = new BarberParliament();
        Check.due("ranking", x.ranking(), BarberParliament.ARRIVAL);
        for (int ranking = 3; ranking >= 0; ranking--) {
            x.setRanking(ranking);
            Check.due("ranking", x.ranking(), ranking);
        }
    }

    private static void promise31() {
        StringBuilder setup = new StringBuilder("house 1 0 1 0 2 0 0;");
        for (char name = 'a'; name <= 'l'; name++) {
            setup.append("member ").append(name).append(" 1 0 0;");
        }
        BarberParliament x = Check.house(setup.toString());
        x.propose(0, 0);
        Check.due("requestCount", x.requestCount(), 0);
        for (int member = 0; member < 12; member++) {
            Check.due("request", x.request(member, 0, true), member);
            Check.due("requestCount", x.requestCount(), member + 1);
        }
        x.advance(1);
        Check.due("requestCount when one speaks", x.requestCount(), 11);
        x.advance(11);
        Check.due("requestCount when the last speaks", x.requestCount(), 0);
        Check.due("the last speaker", x.speaker(0), 11);
    }

    private static void promises32To35() {
        BarberParliament x = new BarberParliament();
        Check.due("speaker of a free chair", x.speaker(0), BarberParliament.NONE);
        Check.due("remainingTime of a free chair", x.remainingTime(0), 0);
        Check.no("isRebutted of a free chair", x.isRebutted(0));
        Check.noElement(x, "speechMotion of a free chair", () -> x.speechMotion(0));
        Check.runAll(x, "propose ada 8; propose ada 9; ask cai for 1; wait 1; ask ben against 0; wait 1;", 6);
        Check.due("speaker", x.speaker(0), 2);
        Check.due("speechMotion", x.speechMotion(0), 1);
        Check.due("remainingTime", x.remainingTime(0), 2);
        Check.due("speaker", x.speaker(1), 1);
        Check.due("speechMotion", x.speechMotion(1), 0);
        Check.due("remainingTime at the start", x.remainingTime(1), 3);
        Check.no("isRebutted", x.isRebutted(1));
        Check.due("rebut", x.rebut(0, 1), 0);
        Check.yes("isRebutted", x.isRebutted(1));
        Check.no("isRebutted of the other chair", x.isRebutted(0));
        x.advance(2);
        Check.due("speaker after the speech", x.speaker(0), BarberParliament.NONE);
        Check.due("remainingTime after the speech", x.remainingTime(0), 0);
        Check.noElement(x, "speechMotion after the speech", () -> x.speechMotion(0));
        Check.yes("isRebutted until the speech ends", x.isRebutted(1));
        x.advance(1);
        Check.no("isRebutted after the speech", x.isRebutted(1));
        Check.runAll(x, "ask ben against 0; wait 1;", 2);
        Check.no("isRebutted of the next speech", x.isRebutted(0));
    }

    private static void promise36() {
        BarberParliament x = Check.house("house 1 0 1 0 2 0 0; member a 3 0 0; member b 5 0 0; member c 5 0 0; member d 1 0 0;");
        for (int ranking = 0; ranking < 4; ranking++) {
            Check.due("firstBy without requests", x.firstBy(ranking), BarberParliament.NONE);
        }
        Check.noSuch(x, "firstBy(-1)", () -> x.firstBy(-1));
        Check.noSuch(x, "firstBy(4)", () -> x.firstBy(4));
        Check.runAll(x, "propose a 0; ask d for 0; ask c for 0; ask b for 0; ask a for 0;", 5);
        Check.due("firstBy(ARRIVAL)", x.firstBy(0), 3);
        Check.due("firstBy(HEAVIEST)", x.firstBy(1), 2);
        Check.due("firstBy(QUIETEST)", x.firstBy(2), 3);
        Check.due("firstBy(CONTRAST)", x.firstBy(3), 3);
        Check.noSuch(x, "firstBy(-1)", () -> x.firstBy(-1));
        Check.noSuch(x, "firstBy(4)", () -> x.firstBy(4));
        Check.due("no change", x.undoCount(), 1);
        for (int ranking = 0; ranking < 4; ranking++) {
            int first = x.firstBy(ranking);
            x.setRanking(ranking);
            x.advance(1);
            Check.due("the speaker is the first by " + ranking, x.speaker(0), first);
            x.undo();
            x.undo();
        }
    }

    private static void promise36Contrast() {
        BarberParliament x = Check.house("house 1 0 1 0 30 0 0; member a 3 0 0; member b 5 0 0; member c 5 0 0; member d 1 0 0;");
        Check.runAll(x, "propose a 0; propose a 0; ask a for 0; wait 2;", 4);
        Check.runAll(x, "ask b for 0; ask c against 1; ask d against 0;", 3);
        Check.due("a contrast to the latest speech comes first", x.firstBy(3), 3);
        x.undo();
        Check.runAll(x, "ask b for 0; ask c against 1;", 2);
        Check.due("a motion without speech is among the others", x.firstBy(3), 1);
        Check.runAll(x, "wait 1; wait 1; ask b for 0; ask a for 1; ask d against 0;", 5);
        Check.due("each motion has its own latest speech", x.firstBy(3), 0);
        Check.runAll(x, "wait 1; withdraw 1; ask c against 0;", 3);
        Check.due("a running speech counts, and the earliest contrast comes first", x.firstBy(3), 3);
        Check.runAll(x, "wait 1; ask b for 0;", 2);
        Check.due("only the latest speech counts", x.firstBy(3), 1);
        Check.runAll(x, "wait 2; wait 1;", 2);
        Check.due("all have spoken", x.requestCount(), 0);
        Check.runAll(x, "ask a for 0; ask d against 0;", 2);
        Check.due("the latest speech counts when it has ended, too", x.firstBy(3), 3);
    }

    private static void promise36Quietest() {
        BarberParliament x = Check.house("house 1 0 1 0 30 0 0; member a 3 0 0; member b 5 0 0; member c 5 0 0;");
        Check.runAll(x, "propose a 0; ask a for 0; wait 2; ask a for 0; wait 2; ask b for 0; wait 2;", 7);
        Check.runAll(x, "ask a for 0; ask b for 0;", 2);
        Check.due("fewest speeches", x.firstBy(2), 1);
        Check.runAll(x, "ask c for 0;", 1);
        Check.due("fewest speeches", x.firstBy(2), 2);
    }

    private static void unknownChairs() {
        for (int chair : NO_CHAIRS) {
            BarberParliament x = new BarberParliament();
            Check.runAll(x, "propose ada 8; ask cai for 0; ask ben for 0; wait 1;", 4);
            Check.noSuch(x, "speaker(" + chair + ")", () -> x.speaker(chair));
            Check.noSuch(x, "speechMotion(" + chair + ")", () -> x.speechMotion(chair));
            Check.noSuch(x, "remainingTime(" + chair + ")", () -> x.remainingTime(chair));
            Check.noSuch(x, "isRebutted(" + chair + ")", () -> x.isRebutted(chair) ? 1 : 0);
        }
    }
}
