/**
 * Sentences of the document that only the model held, or no test at all: what makes a difference and what makes none,
 * each place in a text, and the last row of each table.
 */
public final class SentencesTest {
    private static final String SPEECHES = "Terms, Requests and speeches: ";
    private static final String VOTES = "Terms, Votes: ";
    private static final String TEXTS = "Terms, Texts: ";
    private static final String FORECASTS = "Terms, Changes and undo: forecasts tell what happens if only minutes pass";
    private static final String[] RANKINGS = {"arrival", "heaviest", "quietest", "contrast"};
    private static final int MINUTES = 24;

    public static void main(String[] args) {
        Check.holds(SPEECHES + "a chair is filled with the request that the ranking in force puts first, and it leaves the list", SentencesTest::fillings);
        Check.holds(SPEECHES + "CONTRAST: a speech that has just started counts for the next chair", SentencesTest::contrastBetweenChairs);
        Check.holds(SPEECHES + "CONTRAST: the latest speech counts, however long ago and whatever the lather is", SentencesTest::contrastLongAgo);
        Check.holds(SPEECHES + "QUIETEST: speeches about all motions count", SentencesTest::quietestOfAllMotions);
        Check.holds(SPEECHES + "HEAVIEST: the weight counts, whatever the razor is", SentencesTest::heaviestWithABluntRazor);
        Check.holds(SPEECHES + "a speech moves each other member: who waits, who speaks, who proposed, who is blunt", SentencesTest::eachOtherMember);
        Check.holds(SPEECHES + "the reach is between the members, not from the motion", SentencesTest::reachBetweenMembers);
        Check.holds(SPEECHES + "a speech moves the leanings to its motion only", SentencesTest::itsMotionOnly);
        Check.holds(VOTES + "a tip is 1 coin in every vote, up to the 16th", SentencesTest::sixteenVotes);
        Check.holds("Promise 40: all members, whatever their razors and the state of the motion are", SentencesTest::meanOfAllMembers);
        Check.holds("Promise 41: the weight counts, whatever the razor is", SentencesTest::shareWithABluntRazor);
        Check.holds("Promise 46: who speaks, who waits and who has a blunt razor may propose", SentencesTest::whoMayPropose);
        Check.holds("Promise 9: the whole text buffer, with each byte in each place of a name", SentencesTest::bytesInNames);
        Check.holds("Promise 9: the whole text buffer, of which the last six letters are a name", SentencesTest::longerThanNames);
        Check.holds(TEXTS + "a number is a maximal run of digits, and a letter behind it begins a word", SentencesTest::letterBehindANumber);
        Check.holds(TEXTS + "the text ends too early, behind each token of a setup", SentencesTest::setupsThatEnd);
        Check.holds(TEXTS + "the text ends too early, behind each token of a script", SentencesTest::scriptsThatEnd);
        Check.holds("Promise 5: each command calls its method, as the 30th command too", SentencesTest::thirtiethCommands);
        Check.holds("Promises 58 and 60: the 12th request is restored", SentencesTest::lastRequest);
        Check.holds("Promises 58 and 60: the speech in the fourth chair is restored", SentencesTest::lastChair);
        Check.holds("Promises 58 and 60: the 16th motion is restored", SentencesTest::lastMotion);
        Check.holds("Promises 58 and 60: the 12th member is restored", SentencesTest::lastMember);
        for (int ranking = 0; ranking < RANKINGS.length; ranking++) {
            int inForce = ranking;
            Check.holds(FORECASTS + " (" + RANKINGS[ranking] + ")", () -> forecasts(inForce));
        }
        Check.end();
    }

    private static void fillings() {
        String[] chairs = {"a+0:3 b-0:3", "e-0:3 d+0:3", "b-0:3 c-0:3", "b-0:3 a+0:3"};
        String[] left = {"c-0,d+0,e-0", "a+0,b-0,c-0", "a+0,d+0,e-0", "c-0,d+0,e-0"};
        for (int ranking = 0; ranking < RANKINGS.length; ranking++) {
            BarberParliament x = Check.house("house 2 0 3 0 30 0 0; member a 1 5 0; member b 2 5 0; member c 3 5 0; member d 4 5 0; member e 5 5 0;");
            Check.runAll(x, "propose a 5; ask a against 0; ask e against 0; wait 4; ask d for 0; wait 4;", 6);
            Check.runAll(x, "ask a for 0; ask b against 0; ask c against 0; ask d for 0; ask e against 0;", 5);
            x.setRanking(ranking);
            x.advance(1);
            Check.due("the chairs by " + RANKINGS[ranking], Bound.chairs(x), chairs[ranking]);
            Check.due("the list by " + RANKINGS[ranking], Bound.requests(x), left[ranking]);
        }
    }

    private static void contrastBetweenChairs() {
        BarberParliament x = Check.house("house 2 0 2 0 30 0 0;" + Bound.members(4, "1 5 0"));
        Check.runAll(x, "propose a 5; propose a 5; rank contrast; ask a for 0; wait 3;", 5);
        Check.runAll(x, "ask c for 1; ask b against 0; ask a for 0; wait 1;", 4);
        Check.due("b contrasts, and then a contrasts with b", Bound.chairs(x), "b-0:2 a+0:2");
        Check.due("the earliest is left", Bound.requests(x), "c+1");
    }

    private static void contrastLongAgo() {
        BarberParliament x = Check.house("house 1 0 1 0 2 0 0;" + Bound.members(4, "1 5 0"));
        Check.runAll(x, "propose a 5; propose a 5; ask a for 0; wait 60; wait 60; rank contrast;", 6);
        Check.due("lather", x.lather(0), 0);
        Check.runAll(x, "ask b for 1; ask c for 0; ask d against 0;", 3);
        Check.due("a contrast after 118 minutes", x.firstBy(BarberParliament.CONTRAST), 3);
        x.withdraw(1);
        Check.due("when another motion is decided", x.firstBy(BarberParliament.CONTRAST), 3);
    }

    private static void quietestOfAllMotions() {
        BarberParliament x = Check.house("house 1 0 1 0 30 0 0;" + Bound.members(3, "1 5 0"));
        Check.runAll(x, "propose a 5; propose a 5; ask a for 0; wait 2; ask a against 0; wait 2; ask b for 0; wait 2;", 8);
        Check.runAll(x, "withdraw 0; ask a for 1; ask b for 1;", 3);
        Check.due("one speech is fewer than two, about a withdrawn motion too", x.firstBy(BarberParliament.QUIETEST), 1);
        Check.runAll(x, "ask c against 1;", 1);
        Check.due("none is fewer than one", x.firstBy(BarberParliament.QUIETEST), 2);
    }

    private static void heaviestWithABluntRazor() {
        BarberParliament x = Check.house(Bound.HEAD + "member a 9 5 0; member b 8 10 0;");
        Check.runAll(x, "repeat 6 (propose a 5;); vote 0; vote 1; vote 2; vote 3; vote 4;", 11);
        Check.due("razors", x.sharpness(0) * 10 + x.sharpness(1), 5);
        Check.runAll(x, "ask b for 5; ask a for 5;", 2);
        Check.due("the heaviest", x.firstBy(BarberParliament.HEAVIEST), 0);
    }

    private static void eachOtherMember() {
        BarberParliament x = Check.house("house 2 0 2 20 30 0 0;" + Bound.members(5, "1 5 0"));
        Check.runAll(x, "repeat 6 (propose e 10;);", 6);
        Check.runAll(x, "propose b 5; repeat 5 (propose a 20;); vote 7; vote 8; vote 9; vote 10; vote 11;", 11);
        Check.due("every razor is blunt", x.sharpness(3), 0);
        Check.runAll(x, "ask a for 6; wait 1; ask c against 6; wait 1; ask d for 0;", 5);
        Check.due("before", Bound.leanings(x, 6), "5 5 5 5 5");
        x.advance(1);
        Check.due("b proposed, c speaks, d begins, e is silent", Bound.leanings(x, 6), "5 7 7 7 7");
        Check.due("the chairs", Bound.chairs(x), "d+0:2 c-6:1");
        Check.runAll(x, "ask a for 6; ask e for 0; wait 1;", 3);
        Check.due("a waited, e begins", Bound.leanings(x, 6), "3 5 7 5 5");
    }

    /** The speaker's number is not that of the chair, nor of the ranking. */
    private static void reachBetweenMembers() {
        BarberParliament x = Check.house("house 2 0 1 3 30 0 0; member a 1 5 0; member b 1 20 0; member c 1 6 0; member s 1 2 0;");
        Check.runAll(x, "propose b 20; ask s for 0; wait 2;", 3);
        Check.due("the one near the motion is out of the speaker's reach", Bound.leanings(x, 0), "-8 5 -9 -13");
        Check.runAll(x, "rank heaviest; ask c for 0; ask s against 0; wait 2;", 4);
        Check.due("of a speech from each chair", Bound.leanings(x, 0), "-8 5 -9 -13");
        Check.runAll(x, "ask c for 0; wait 2;", 2);
        Check.due("a alone is in the reach of c", Bound.leanings(x, 0), "-6 5 -9 -13");
    }

    private static void itsMotionOnly() {
        BarberParliament x = Check.house("house 2 0 1 20 30 0 0;" + Bound.members(3, "1 5 0"));
        Check.runAll(x, "propose a 5; propose a 5; propose a 5; ask a for 1; ask b against 2; wait 2;", 6);
        Check.due("leanings to 0", Bound.leanings(x, 0), "5 5 5");
        Check.due("leanings to 1", Bound.leanings(x, 1), "5 7 7");
        Check.due("leanings to 2", Bound.leanings(x, 2), "3 5 3");
        Check.due("lather", x.lather(0) * 100 + x.lather(1) * 10 + x.lather(2), 11);
    }

    private static void sixteenVotes() {
        BarberParliament x = Check.house(Bound.HEAD + "member a 1 5 99;");
        Check.runAll(x, "repeat 16 (propose a 5;);", 16);
        for (int motion = 0; motion < 16; motion++) {
            if (x.sharpness(0) == 0) {
                x.sharpen(0);
            }
            int purse = x.purse(0);
            Check.yes("vote", x.vote(motion));
            Check.due("the purse after vote " + (motion + 1), x.purse(0), purse - 1);
            Check.due("tips", x.tips(), motion + 1);
            Check.due("voteCount", x.voteCount(), motion + 1);
        }
        Check.due("16 tips and three times 2 coins", x.purse(0), 99 - 16 - 6);
    }

    private static void meanOfAllMembers() {
        BarberParliament x = Check.house(Bound.HEAD + "member a 9 5 0; member b 1 7 0; member c 1 14 0;");
        Check.runAll(x, "propose a 6; repeat 4 (propose a 5;); propose c 6; propose c 20;", 7);
        mean(x, 0, (4 + 4 - 3) / 3.0);
        Check.runAll(x, "vote 0; withdraw 5; vote 1; vote 2; vote 3; vote 4;", 6);
        Check.due("every razor is blunt", x.sharpness(0) + x.sharpness(1) + x.sharpness(2), 0);
        mean(x, 0, (4 + 4 - 3) / 3.0);
        mean(x, 5, (4 + 4 - 3) / 3.0);
        mean(x, 6, (-10 - 8 - 1) / 3.0);
    }

    private static void mean(BarberParliament x, int motion, double due) {
        Check.due("the bits of meanLeaning(" + motion + ")", Double.doubleToRawLongBits(x.meanLeaning(motion)), Double.doubleToRawLongBits(due));
    }

    private static void shareWithABluntRazor() {
        BarberParliament x = Check.house(Bound.HEAD + "member a 5 5 0; member b 2 10 0;");
        Check.runAll(x, "repeat 5 (propose a 5;); vote 0; vote 1; vote 2; vote 3; vote 4;", 10);
        Check.due("razors", x.sharpness(0) * 10 + x.sharpness(1), 5);
        Check.due("the bits of the share of the blunt", Float.floatToRawIntBits(x.weightShare(0)), Float.floatToRawIntBits(5f / 7f));
        Check.due("the bits of the share of the sharp", Float.floatToRawIntBits(x.weightShare(1)), Float.floatToRawIntBits(2f / 7f));
    }

    private static void whoMayPropose() {
        BarberParliament x = Check.house("house 1 0 3 0 30 0 0; member a 1 5 0; member b 1 10 0; member c 1 10 0;");
        Check.runAll(x, "repeat 5 (propose b 5;); vote 0; vote 1; vote 2; vote 3; vote 4;", 10);
        Check.due("the razor of a", x.sharpness(0), 0);
        Check.due("the blunt", x.propose(0, 5), 5);
        Check.runAll(x, "ask b for 5; ask c for 5; wait 1;", 3);
        Check.due("the speaker", x.propose(1, 5), 6);
        Check.due("who waits", x.propose(2, 5), 7);
    }

    private static void bytesInNames() {
        for (int sign = 1; sign < 256; sign++) {
            BarberParliament x = Check.house(Bound.HEAD + "member no 1 0 0; member aaaaaa 1 0 0;");
            for (int place = 0; place <= 2; place++) {
                String name = "no".substring(0, place) + (char) sign + "no".substring(place);
                Check.due("findMember of no with byte " + sign + " at " + place, Check.find(x, name), BarberParliament.NONE);
            }
            for (int place = 0; place < 6; place++) {
                String name = "aaaaaa".substring(0, place) + (char) sign + "aaaaaa".substring(place + 1);
                int due = sign == 'a' ? 1 : BarberParliament.NONE;
                Check.due("findMember of aaaaaa with byte " + sign + " at " + place, Check.find(x, name), due);
            }
        }
    }

    private static void longerThanNames() {
        BarberParliament x = Check.house(Bound.HEAD + "member abcdef 1 0 0; member a 1 0 0;");
        for (char letter = 'a'; letter <= 'z'; letter++) {
            Check.due("findMember behind " + letter, Check.find(x, letter + "abcdef"), BarberParliament.NONE);
            Check.due("findMember before " + letter, Check.find(x, "abcdef" + letter), BarberParliament.NONE);
            Check.due("findMember behind seven", Check.find(x, "zzzzzz" + letter + "abcdef"), BarberParliament.NONE);
        }
        Check.due("findMember of the name", Check.find(x, "abcdef"), 0);
        for (char letter = 'a'; letter <= 'z'; letter++) {
            Bound.scriptError(Bound.RANGE, "sharpen |" + letter + "aaaada;");
            Bound.setupError(Bound.RANGE, Bound.HEAD + "member abcdef 1 0 0; member |" + letter + "abcdef 1 0 0;");
        }
    }

    private static void letterBehindANumber() {
        Bound.scriptError(Bound.SYNTAX, "wait 1|a;");
        Bound.scriptError(Bound.SYNTAX, "wait 1|wait 2;");
        Bound.scriptError(Bound.SYNTAX, "propose ada 5|z6;");
        Bound.scriptError(Bound.RANGE, "wait |61a;");
        Bound.scriptError(Bound.SYNTAX, "repeat 2|x(wait 1;);");
        Bound.scriptError(Bound.SYNTAX, "|1x");
        Bound.setupError(Bound.SYNTAX, "house 2|x 1 3 6 5 2 2;");
        Bound.setupError(Bound.SYNTAX, Bound.HEAD + "member a 1 0 0|b;");
        Bound.setupError(Bound.SYNTAX, Bound.HEAD + "member a 1|b0 0;");
    }

    private static void setupsThatEnd() {
        String[] tokens = {"house", "1", "0", "1", "0", "2", "0", "0", ";", "member", "a", "1", "2", "3", ";", "member", "b", "1", "2", "3"};
        String text = "";
        for (int i = 0; i < tokens.length; i++) {
            text = text + tokens[i] + (i % 2 == 0 ? " " : "\n");
            if (i != 14) {
                Bound.setupError(Bound.SYNTAX, text + "|");
                Bound.setupError(Bound.SYNTAX, text.substring(0, text.length() - 1) + "|");
            }
        }
        Check.due("with the last token", Check.house(text + ";").memberCount(), 2);
    }

    private static void scriptsThatEnd() {
        String[] commands = {"propose ada 5 ;", "ask ada for 0 ;", "ask ada against 0 ;", "rebut ada 0 ;", "wait 1 ;", "vote 0 ;", "withdraw 0 ;",
            "sharpen ada ;", "rank arrival ;", "rank contrast ;", "repeat 1 ( ) ;", "repeat 1 ( wait 1 ; ) ;", "repeat 1 ( repeat 1 ( wait 1 ; ) ; ) ;"};
        for (String command : commands) {
            for (int end = command.indexOf(' '); end >= 0; end = command.indexOf(' ', end + 1)) {
                Bound.scriptError(Bound.SYNTAX, command.substring(0, end) + "|");
                Bound.scriptError(Bound.SYNTAX, "wait 1;" + command.substring(0, end) + " \n|");
            }
            BarberParliament x = new BarberParliament();
            Check.yes("runScript of " + command, Check.run(x, command) >= 0);
        }
    }

    private static void thirtiethCommands() {
        String first = "propose ada 8; propose ben 8; ask cai against 0; wait 1;" + "wait 1;".repeat(25);
        Check.due("propose", after(first, "propose dov 3;").proposer(2), 3);
        Check.due("ask for", Bound.requests(after(first, "ask ben for 1;")), "ben+1");
        Check.due("ask against", Bound.requests(after(first, "ask eli against 1;")), "eli-1");
        Check.due("wait", after(first, "wait 60;").minute(), 86);
        Check.due("withdraw", after(first, "withdraw 1;").motionState(1), BarberParliament.WITHDRAWN);
        Check.due("rank", after(first, "rank quietest;").ranking(), BarberParliament.QUIETEST);
        Check.due("rebut", after("propose ada 8;" + "wait 1;".repeat(26) + "ask cai against 0; wait 1;", "rebut eli 0;").rebuttalCount(), 1);
        BarberParliament x = Check.house(Bound.HEAD + "member a 1 5 9;");
        Check.runAll(x, "propose a 5;" + "wait 1;".repeat(28) + "vote 0;", 30);
        Check.due("vote", x.motionState(0), BarberParliament.PASSED);
        Check.runAll(x, "wait 1;".repeat(29) + "sharpen a;", 30);
        Check.due("sharpen", x.sharpness(0) * 10 + x.purse(0), 56);
    }

    private static BarberParliament after(String first, String thirtieth) {
        return Bound.script(first + thirtieth, 30);
    }

    /** What the object shows must be the same when a script has been undone, and when another one has been restored over. */
    private static void restored(BarberParliament x, String script, int commands, java.util.function.Supplier<String> shown) {
        String before = shown.get();
        x.save(1);
        Check.runAll(x, script, commands);
        Check.yes("the script changes it", !shown.get().equals(before));
        x.undo();
        Check.due("after undo", shown.get(), before);
        Check.runAll(x, script, commands);
        x.restore(1);
        Check.due("after restore", shown.get(), before);
    }

    private static void lastRequest() {
        BarberParliament x = Bound.crowd(Bound.HEAD, 12);
        Check.runAll(x, "repeat 16 (propose a 5;);", 16);
        for (int member = 0; member < 12; member++) {
            x.request(member, 15, false);
        }
        String others = "withdraw 15;";
        for (char name = 'a'; name <= 'l'; name++) {
            others = others + "ask " + name + " for 14;";
        }
        restored(x, others, 13, () -> Bound.requests(x));
    }

    private static void lastChair() {
        BarberParliament x = Check.house("house 4 5 2 0 30 0 0;" + Bound.members(8, "1 5 0"));
        Check.runAll(x, "propose a 5; propose a 5; ask a for 0; ask b against 0; ask c for 0; ask d against 0; wait 1; rebut e 3;", 8);
        Check.due("the fourth chair", Bound.chairs(x), "a+0:2 b-0:2 c+0:2 d-0!:2");
        restored(x, "wait 2; ask e for 1; ask f for 1; ask g for 1; ask h for 1; wait 1;", 6, () -> Bound.chairs(x) + x.freeMirrors());
    }

    private static void lastMotion() {
        BarberParliament x = Bound.crowd("house 1 0 1 20 30 0 0;", 3);
        Check.runAll(x, "repeat 15 (propose a 5;); propose b 5; ask a against 15; wait 2; ask b against 15; ask c for 15;", 20);
        Check.due("a contrast with the speech against", x.firstBy(BarberParliament.CONTRAST), 2);
        restored(x, "ask a for 15; wait 4; vote 15;", 3, () -> x.motionState(15) + " " + x.lather(15) + " " + Bound.leanings(x, 15) + " " + x.proposer(15) + " "
            + x.firstBy(BarberParliament.CONTRAST));
    }

    private static void lastMember() {
        BarberParliament x = Bound.crowd("house 4 0 1 0 30 0 0;", 12);
        Check.runAll(x, "propose l 5; propose l 5; vote 0;", 3);
        restored(x, "vote 1; sharpen l; propose l 5; vote 2;", 4, () -> x.purse(11) + " " + x.sharpness(11));
        restored(x, "propose l 20; ask l for 2; wait 2;", 3, () -> x.speechesOf(11) + " " + x.minute());
    }

    /** What one object tells ahead must be what another one, made alike, tells minute by minute. */
    private static void forecasts(int ranking) {
        BarberParliament ahead = debate(ranking);
        BarberParliament real = debate(ranking);
        int[] speech = new int[6];
        int[] vote = new int[3];
        java.util.Arrays.fill(speech, BarberParliament.NONE);
        java.util.Arrays.fill(vote, BarberParliament.NONE);
        for (int minutes = 0; minutes <= MINUTES; minutes++) {
            if (minutes > 0) {
                note(speech, minutes, member -> ahead.placeInList(member) != BarberParliament.NONE && real.placeInList(member) == BarberParliament.NONE);
            }
            note(vote, minutes, motion -> real.obstacle(motion) == BarberParliament.MAY_VOTE);
            for (int motion = 0; motion < 3; motion++) {
                Check.due("latherAfter(" + motion + ", " + minutes + ")", ahead.latherAfter(motion, minutes), real.lather(motion));
            }
            real.advance(1);
        }
        for (int member = 0; member < 6; member++) {
            Check.due("minutesUntilSpeech(" + member + ")", ahead.minutesUntilSpeech(member), speech[member]);
        }
        for (int motion = 0; motion < 3; motion++) {
            Check.due("minutesUntilVote(" + motion + ")", ahead.minutesUntilVote(motion), vote[motion]);
        }
        Check.due("the last speech has ended", Bound.chairs(real) + real.requestCount(), ". .0");
    }

    /** Each number of minutes is that at which something came for the first time. */
    private static void note(int[] first, int minutes, java.util.function.IntPredicate hasCome) {
        for (int i = 0; i < first.length; i++) {
            if (first[i] == BarberParliament.NONE && hasCome.test(i)) {
                first[i] = minutes;
            }
        }
    }

    /** Two speeches run that began in different minutes, one of them rebutted, and four requests about two motions wait. */
    private static BarberParliament debate(int ranking) {
        BarberParliament x = Check.house("house 2 1 4 9 7 2 5; member a 1 5 0; member b 4 6 0; member c 2 14 0; member d 3 15 0; member e 5 10 0;"
            + "member f 6 0 0;");
        Check.runAll(x, "propose a 8; propose b 11; propose c 12; ask a for 0; wait 2; ask d against 0; wait 1; rebut b 1;", 8);
        Check.runAll(x, "ask c for 1; ask b against 0; ask e for 0; ask f against 1;", 4);
        x.setRanking(ranking);
        return x;
    }
}
