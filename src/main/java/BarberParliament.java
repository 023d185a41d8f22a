import java.util.NoSuchElementException;

/** A simulator of a debating chamber that meets in a barber shop. */
public final class BarberParliament {
    public static final int NONE = -1;
    public static final int SYNTAX = 1;
    public static final int OUT_OF_RANGE = 2;
    public static final int WRONG_NAME = 3;
    public static final int TOO_MANY = 4;
    public static final int OPEN = 0;
    public static final int PASSED = 1;
    public static final int REJECTED = 2;
    public static final int WITHDRAWN = 3;
    public static final int ARRIVAL = 0;
    public static final int HEAVIEST = 1;
    public static final int QUIETEST = 2;
    public static final int CONTRAST = 3;
    public static final int MAY_VOTE = 0;
    public static final int DECIDED = 1;
    public static final int TOO_DRY = 2;
    public static final int SPEECH_RUNNING = 3;
    public static final int NO_QUORUM = 4;

    private static final String FIRST_SETUP = "house 2 1 3 6 5 2 2; member ada 3 4 5; member ben 2 9 0; member cai 5 15 9; member dov 1 12 3; member eli 4 6 1;";

    private static final int MAX_TEXT = 700;
    private static final int MAX_NAME = 6;
    private static final int MAX_MEMBERS = 12;
    private static final int MAX_CHAIRS = 4;
    private static final int MAX_MOTIONS = 16;
    private static final int MAX_POSITION = 20;
    private static final int MAX_LEANING = 20;
    private static final int MAX_LATHER = 9;
    private static final int MAX_WAIT = 60;
    private static final int MAX_MINUTE = 9999;
    private static final int FULL_SHARPNESS = 5;
    private static final int SHARPENING_PRICE = 2;
    private static final int FORECAST_MINUTES = 300;
    private static final int UNDO_LIMIT = 8;
    private static final int SLOTS = 2;
    private static final int MAX_COMMANDS = 30;
    private static final int MAX_BRACKETS = 2;
    private static final int MAX_EXECUTED = 40;

    // A side is kept as the sign of what it does to a leaning.
    private static final int FOR = 1;
    private static final int AGAINST = -1;
    private static final int NO_SIDE = 0;

    // Why a change is refused; each reason has its exception.
    private static final int ALLOWED = 0;
    private static final int NO_SUCH = 1;
    private static final int BAD_ARGUMENT = 2;
    private static final int WRONG_STATE = 3;

    private final Text text;
    private final TextReader reader;
    private final Script script;
    private final Setup setup;
    private final Setup draft;
    private final Chamber chamber;
    private final Chamber forecast;
    private final History history;
    private final Chamber[] slots;
    private final boolean[] slotIsFilled;
    private final StringBuilder output;

    public BarberParliament() {
        text = new Text();
        reader = new TextReader(text);
        script = new Script();
        setup = new Setup();
        draft = new Setup();
        chamber = new Chamber(setup);
        forecast = new Chamber(setup);
        history = new History(setup);
        slots = new Chamber[] {new Chamber(setup), new Chamber(setup)};
        slotIsFilled = new boolean[SLOTS];
        output = new StringBuilder();
        text.putAll(FIRST_SETUP);
        takeSetup();
    }

    // ---- texts

    public int append(int a, int b, int c, int d, int e) throws IllegalStateException {
        int more = Text.bytesIn(a) + Text.bytesIn(b) + Text.bytesIn(c) + Text.bytesIn(d) + Text.bytesIn(e);
        if (text.length + more > MAX_TEXT) {
            throw new IllegalStateException("the text buffer would hold more than 700 bytes");
        }
        text.putBytesOf(a);
        text.putBytesOf(b);
        text.putBytesOf(c);
        text.putBytesOf(d);
        text.putBytesOf(e);
        return text.length;
    }

    public int truncate(int length) throws IllegalArgumentException {
        if (length < 0 || length > text.length) {
            throw new IllegalArgumentException("the text buffer cannot be shortened to this length");
        }
        int removed = text.length - length;
        text.length = length;
        return removed;
    }

    public int load() {
        takeSetup();
        return reader.errorCode;
    }

    /** Reads into a draft, so that a setup with an error leaves the chamber as it is. */
    private void takeSetup() {
        reader.start();
        draft.readFrom(reader);
        text.length = 0;
        if (reader.isFine()) {
            setup.copyFrom(draft);
            chamber.clear();
            history.forget();
            for (int slot = 0; slot < SLOTS; slot++) {
                slotIsFilled[slot] = false;
            }
        }
    }

    public int runScript() {
        reader.start();
        script.clear();
        script.readBlock(reader, setup, 0);
        reader.takeEnd();
        text.length = 0;
        if (!reader.isFine()) {
            return NONE;
        }
        history.remember(chamber);
        script.runBlock(chamber, 0, script.count, 0);
        return script.executed;
    }

    public int errorCode() {
        return reader.errorCode;
    }

    public int errorPosition() {
        return reader.errorPosition;
    }

    // ---- members

    public int memberCount() {
        return setup.memberCount;
    }

    public int findMember() {
        return setup.memberNamed(text.nameBetween(0, text.length));
    }

    public int weight(int member) throws IndexOutOfBoundsException {
        requireMember(member);
        return setup.weight[member];
    }

    public int purse(int member) throws IndexOutOfBoundsException {
        requireMember(member);
        return chamber.members.purse[member];
    }

    public int sharpness(int member) throws IndexOutOfBoundsException {
        requireMember(member);
        return chamber.members.sharpness[member];
    }

    public int speechesOf(int member) throws IndexOutOfBoundsException {
        requireMember(member);
        return chamber.members.speeches[member];
    }

    public int leaning(int member, int motion) throws IndexOutOfBoundsException {
        requireMember(member);
        requireMotion(motion);
        return chamber.motions.leaningOf(member, motion);
    }

    public int chairOf(int member) throws IndexOutOfBoundsException {
        requireMember(member);
        return chamber.chairs.takenBy(member);
    }

    public int placeInList(int member) throws IndexOutOfBoundsException {
        requireMember(member);
        return chamber.requests.placeOf(member);
    }

    // ---- motions

    public int motionCount() {
        return chamber.motions.count;
    }

    public int proposer(int motion) throws IndexOutOfBoundsException {
        requireMotion(motion);
        return chamber.motions.proposer[motion];
    }

    public int motionState(int motion) throws IndexOutOfBoundsException {
        requireMotion(motion);
        return chamber.motions.state[motion];
    }

    public int lather(int motion) throws IndexOutOfBoundsException {
        requireMotion(motion);
        return chamber.motions.lather[motion];
    }

    public int weightFor(int motion) throws IndexOutOfBoundsException {
        requireMotion(motion);
        return chamber.weightOfVotes(motion, FOR);
    }

    public int weightAgainst(int motion) throws IndexOutOfBoundsException {
        requireMotion(motion);
        return chamber.weightOfVotes(motion, AGAINST);
    }

    public int voterCount(int motion) throws IndexOutOfBoundsException {
        requireMotion(motion);
        return chamber.countVoters(motion);
    }

    public int obstacle(int motion) throws IndexOutOfBoundsException {
        requireMotion(motion);
        return chamber.obstacleTo(motion);
    }

    public boolean wouldPass(int motion) throws IndexOutOfBoundsException {
        requireMotion(motion);
        return chamber.marginOf(motion) > 0;
    }

    public int decisiveVoter(int motion) throws IndexOutOfBoundsException {
        requireMotion(motion);
        return chamber.lightestTurner(motion);
    }

    // ---- chairs and requests

    public int chairCount() {
        return setup.chairs;
    }

    public int minute() {
        return chamber.minute;
    }

    public int freeMirrors() {
        return chamber.countFreeMirrors();
    }

    public int ranking() {
        return chamber.ranking;
    }

    public int requestCount() {
        return chamber.requests.count;
    }

    public int speaker(int chair) throws IndexOutOfBoundsException {
        requireChair(chair);
        return chamber.chairs.speaker[chair];
    }

    public int speechMotion(int chair) throws IndexOutOfBoundsException, NoSuchElementException {
        requireChair(chair);
        if (chamber.chairs.isFree(chair)) {
            throw new NoSuchElementException("the chair is free");
        }
        return chamber.chairs.motion[chair];
    }

    public int remainingTime(int chair) throws IndexOutOfBoundsException {
        requireChair(chair);
        return chamber.chairs.remaining[chair];
    }

    public boolean isRebutted(int chair) throws IndexOutOfBoundsException {
        requireChair(chair);
        return chamber.chairs.isRebuttedAt(chair);
    }

    public int firstBy(int ranking) throws IndexOutOfBoundsException {
        throwIfRefused(Chamber.refusalOfRanking(ranking));
        int place = chamber.firstPlace(ranking);
        return place == NONE ? NONE : chamber.requests.member[place];
    }

    // ---- statistics

    public int tips() {
        return chamber.tips;
    }

    public int voteCount() {
        return chamber.votes;
    }

    public int rebuttalCount() {
        return chamber.rebuttals;
    }

    public double meanLeaning(int motion) throws IndexOutOfBoundsException {
        requireMotion(motion);
        int sum = 0;
        for (int member = 0; member < setup.memberCount; member++) {
            sum += chamber.motions.leaningOf(member, motion);
        }
        return (double) sum / (double) Math.max(1, setup.memberCount);
    }

    public float weightShare(int member) throws IndexOutOfBoundsException {
        requireMember(member);
        return (float) setup.weight[member] / (float) Math.max(1, setup.totalWeight());
    }

    public int contradictions() {
        return chamber.countContradictions();
    }

    // ---- forecasts

    public int minutesUntilSpeech(int member) throws IndexOutOfBoundsException {
        requireMember(member);
        if (chamber.requests.placeOf(member) == NONE) {
            return NONE;
        }
        forecast.copyFrom(chamber);
        for (int minutes = 1; minutes <= FORECAST_MINUTES; minutes++) {
            forecast.passMinute();
            if (forecast.requests.placeOf(member) == NONE) {
                return minutes;
            }
        }
        return NONE;
    }

    public int latherAfter(int motion, int minutes) throws IndexOutOfBoundsException, IllegalArgumentException {
        requireMotion(motion);
        if (minutes < 0 || minutes > FORECAST_MINUTES) {
            throw new IllegalArgumentException("a forecast reaches from 0 to 300 minutes");
        }
        forecast.copyFrom(chamber);
        for (int passed = 0; passed < minutes; passed++) {
            forecast.passMinute();
        }
        return forecast.motions.lather[motion];
    }

    public int minutesUntilVote(int motion) throws IndexOutOfBoundsException {
        requireMotion(motion);
        forecast.copyFrom(chamber);
        for (int minutes = 0; minutes <= FORECAST_MINUTES; minutes++) {
            if (forecast.obstacleTo(motion) == MAY_VOTE) {
                return minutes;
            }
            forecast.passMinute();
        }
        return NONE;
    }

    // ---- changes

    public int propose(int member, int position) throws IndexOutOfBoundsException, IllegalArgumentException, IllegalStateException {
        throwIfRefused(chamber.refusalOfMotion(member, position));
        history.remember(chamber);
        return chamber.addMotion(member, position);
    }

    public int request(int member, int motion, boolean isFor) throws IndexOutOfBoundsException, IllegalStateException {
        throwIfRefused(chamber.refusalOfRequest(member, motion));
        history.remember(chamber);
        return chamber.requests.add(member, motion, isFor ? FOR : AGAINST);
    }

    public int rebut(int member, int chair) throws IndexOutOfBoundsException, IllegalStateException {
        throwIfRefused(chamber.refusalOfRebuttal(member, chair));
        history.remember(chamber);
        return chamber.addRebuttal(chair);
    }

    public int advance(int minutes) throws IllegalArgumentException, IllegalStateException {
        throwIfRefused(chamber.refusalOfWait(minutes));
        history.remember(chamber);
        return chamber.passMinutes(minutes);
    }

    public boolean vote(int motion) throws IndexOutOfBoundsException, IllegalStateException {
        throwIfRefused(chamber.refusalOfVote(motion));
        history.remember(chamber);
        return chamber.holdVote(motion);
    }

    public int withdraw(int motion) throws IndexOutOfBoundsException, IllegalStateException {
        throwIfRefused(chamber.refusalOfWithdrawal(motion));
        history.remember(chamber);
        return chamber.closeMotion(motion, WITHDRAWN);
    }

    public int sharpen(int member) throws IndexOutOfBoundsException, IllegalStateException {
        throwIfRefused(chamber.refusalOfSharpening(member));
        history.remember(chamber);
        return chamber.sharpenRazor(member);
    }

    public int setRanking(int ranking) throws IndexOutOfBoundsException {
        throwIfRefused(Chamber.refusalOfRanking(ranking));
        history.remember(chamber);
        int previous = chamber.ranking;
        chamber.ranking = ranking;
        return previous;
    }

    // ---- output, undo and slots

    public int writeChairs() {
        output.setLength(0);
        for (int chair = 0; chair < setup.chairs; chair++) {
            if (chair > 0) {
                output.append(' ');
            }
            writeChair(chair);
        }
        return output.length();
    }

    private void writeChair(int chair) {
        Chairs chairs = chamber.chairs;
        if (chairs.isFree(chair)) {
            output.append('.');
            return;
        }
        writeSpeech(chairs.speaker[chair], chairs.side[chair], chairs.motion[chair]);
        if (chairs.isRebuttedAt(chair)) {
            output.append('!');
        }
        output.append(':');
        output.append(chairs.remaining[chair]);
    }

    public int writeRequests() {
        output.setLength(0);
        Requests requests = chamber.requests;
        for (int place = 0; place < requests.count; place++) {
            if (place > 0) {
                output.append(',');
            }
            writeSpeech(requests.member[place], requests.side[place], requests.motion[place]);
        }
        return output.length();
    }

    private void writeSpeech(int member, int side, int motion) {
        Text.writeName(setup.name[member], output);
        output.append(side == FOR ? '+' : '-');
        output.append(motion);
    }

    public int outputByte(int index) {
        return index >= 0 && index < output.length() ? output.charAt(index) : NONE;
    }

    public int undoCount() {
        return history.count;
    }

    public int undo() throws IllegalStateException {
        if (history.count == 0) {
            throw new IllegalStateException("no change can be undone");
        }
        history.stepBack(chamber);
        return history.count;
    }

    public int save(int slot) throws IndexOutOfBoundsException {
        requireSlot(slot);
        slots[slot].copyFrom(chamber);
        slotIsFilled[slot] = true;
        return chamber.minute;
    }

    public int restore(int slot) throws IndexOutOfBoundsException, NoSuchElementException {
        requireSlot(slot);
        if (!slotIsFilled[slot]) {
            throw new NoSuchElementException("the slot is empty");
        }
        chamber.copyFrom(slots[slot]);
        history.forget();
        return chamber.minute;
    }

    // ---- refusals

    private void requireMember(int member) {
        if (!setup.hasMember(member)) {
            throw new IndexOutOfBoundsException("there is no such member");
        }
    }

    private void requireMotion(int motion) {
        if (!chamber.motions.has(motion)) {
            throw new IndexOutOfBoundsException("there is no such motion");
        }
    }

    private void requireChair(int chair) {
        if (!setup.hasChair(chair)) {
            throw new IndexOutOfBoundsException("there is no such chair");
        }
    }

    private static void requireSlot(int slot) {
        if (slot < 0 || slot >= SLOTS) {
            throw new IndexOutOfBoundsException("there is no such slot");
        }
    }

    private static void throwIfRefused(int refusal) {
        switch (refusal) {
            case NO_SUCH:
                throw new IndexOutOfBoundsException("there is no member, motion, chair or ranking with this number");
            case BAD_ARGUMENT:
                throw new IllegalArgumentException("the number is out of its range");
            case WRONG_STATE:
                throw new IllegalStateException("the state of the chamber does not allow this change");
            default:
                break;
        }
    }

    /** The text buffer. No byte in it is 0. */
    private static final class Text {
        private static final int LETTER_BITS = 5;
        private static final int LETTER_MASK = 31;

        final byte[] bytes = new byte[MAX_TEXT];
        int length;

        static int bytesIn(int four) {
            int count = 0;
            for (int shift = 24; shift >= 0; shift -= 8) {
                if (((four >>> shift) & 255) != 0) {
                    count++;
                }
            }
            return count;
        }

        void putBytesOf(int four) {
            for (int shift = 24; shift >= 0; shift -= 8) {
                put((four >>> shift) & 255);
            }
        }

        void putAll(String words) {
            for (int i = 0; i < words.length(); i++) {
                put(words.charAt(i));
            }
        }

        private void put(int value) {
            if (value != 0 && length < MAX_TEXT) {
                bytes[length] = (byte) value;
                length++;
            }
        }

        /** Answers 0 where there is no byte. */
        int at(int index) {
            return index >= 0 && index < length ? bytes[index] & 255 : 0;
        }

        /** Packs a name into one number, so that names are compared without making objects; 0 if it is no name. */
        int nameBetween(int from, int to) {
            if (to - from > MAX_NAME) {
                return 0;
            }
            int name = 0;
            for (int i = from; i < to; i++) {
                int sign = at(i);
                if (TextReader.kindOf(sign) != TextReader.WORD) {
                    return 0;
                }
                name = (name << LETTER_BITS) + (sign - 'a' + 1);
            }
            return name;
        }

        static void writeName(int name, StringBuilder output) {
            for (int shift = LETTER_BITS * (MAX_NAME - 1); shift >= 0; shift -= LETTER_BITS) {
                int letter = (name >>> shift) & LETTER_MASK;
                if (letter != 0) {
                    output.append((char) ('a' + letter - 1));
                }
            }
        }
    }

    /** Reads a text token by token. After the first error every further reading does nothing. */
    private static final class TextReader {
        private static final int END = 0;
        static final int WORD = 1;
        private static final int NUMBER = 2;
        private static final int SIGN = 3;
        private static final int BLANK = 4;
        private static final int LARGER_THAN_ALL = 1000;

        final Text text;
        int kind;
        int begin;
        int end;
        int errorCode;
        int errorPosition;

        TextReader(Text text) {
            this.text = text;
        }

        void start() {
            errorCode = 0;
            errorPosition = NONE;
            end = 0;
            step();
        }

        private void step() {
            begin = end;
            while (begin < text.length && kindOf(text.at(begin)) == BLANK) {
                begin++;
            }
            kind = kindOf(text.at(begin));
            end = kind == SIGN ? begin + 1 : begin;
            boolean isRun = kind == WORD || kind == NUMBER;
            while (isRun && end < text.length && kindOf(text.at(end)) == kind) {
                end++;
            }
        }

        static int kindOf(int sign) {
            if (sign == 0) {
                return END;
            }
            if (sign == ' ' || sign == '\n') {
                return BLANK;
            }
            if (sign >= 'a' && sign <= 'z') {
                return WORD;
            }
            return sign >= '0' && sign <= '9' ? NUMBER : SIGN;
        }

        boolean isFine() {
            return errorCode == 0;
        }

        boolean isAtEnd() {
            return kind == END;
        }

        boolean isAtWord() {
            return kind == WORD;
        }

        boolean isAtWord(String word) {
            if (kind != WORD || end - begin != word.length()) {
                return false;
            }
            for (int i = 0; i < word.length(); i++) {
                if (text.at(begin + i) != word.charAt(i)) {
                    return false;
                }
            }
            return true;
        }

        boolean isAtSign(char sign) {
            return kind == SIGN && text.at(begin) == sign;
        }

        /** Takes the present token, or reports it if the error is not 0. */
        void take(int error) {
            if (!isFine()) {
                return;
            }
            if (error == 0) {
                step();
            } else {
                errorCode = error;
                errorPosition = begin;
            }
        }

        void takeWord(String word) {
            take(isAtWord(word) ? 0 : SYNTAX);
        }

        void takeSign(char sign) {
            take(isAtSign(sign) ? 0 : SYNTAX);
        }

        void takeEnd() {
            take(isAtEnd() ? 0 : SYNTAX);
        }

        int takeNumber(int least, int most) {
            int number = number();
            if (kind != NUMBER) {
                take(SYNTAX);
            } else if (number < least || number > most) {
                take(OUT_OF_RANGE);
            } else {
                take(0);
            }
            return isFine() ? number : least;
        }

        private int number() {
            int number = 0;
            for (int i = begin; i < end; i++) {
                number = Math.min(number * 10 + text.at(i) - '0', LARGER_THAN_ALL);
            }
            return number;
        }

        /** Answers what is wrong with the present token as a name, whoever bears it. */
        int errorAsName() {
            if (kind != WORD) {
                return SYNTAX;
            }
            return end - begin > MAX_NAME ? OUT_OF_RANGE : 0;
        }

        int name() {
            return text.nameBetween(begin, end);
        }
    }

    /** What a setup tells. It stays the same until the next setup is loaded. */
    private static final class Setup {
        int chairs;
        int mirrors;
        int speechTime;
        int reach;
        int dryingTime;
        int requiredLevel;
        int quorum;
        int memberCount;
        final int[] name = new int[MAX_MEMBERS];
        final int[] weight = new int[MAX_MEMBERS];
        final int[] position = new int[MAX_MEMBERS];
        final int[] purse = new int[MAX_MEMBERS];

        void copyFrom(Setup other) {
            chairs = other.chairs;
            mirrors = other.mirrors;
            speechTime = other.speechTime;
            reach = other.reach;
            dryingTime = other.dryingTime;
            requiredLevel = other.requiredLevel;
            quorum = other.quorum;
            memberCount = other.memberCount;
            System.arraycopy(other.name, 0, name, 0, MAX_MEMBERS);
            System.arraycopy(other.weight, 0, weight, 0, MAX_MEMBERS);
            System.arraycopy(other.position, 0, position, 0, MAX_MEMBERS);
            System.arraycopy(other.purse, 0, purse, 0, MAX_MEMBERS);
        }

        void readFrom(TextReader reader) {
            reader.takeWord("house");
            chairs = reader.takeNumber(1, MAX_CHAIRS);
            mirrors = reader.takeNumber(0, 5);
            speechTime = reader.takeNumber(1, 20);
            reach = reader.takeNumber(0, MAX_POSITION);
            dryingTime = reader.takeNumber(2, 30);
            requiredLevel = reader.takeNumber(0, MAX_LATHER);
            quorum = reader.takeNumber(0, MAX_MEMBERS);
            reader.takeSign(';');
            memberCount = 0;
            readMember(reader);
            for (int i = 0; i < MAX_MEMBERS && reader.isFine() && !reader.isAtEnd(); i++) {
                readMember(reader);
            }
        }

        private void readMember(TextReader reader) {
            boolean isFull = memberCount == MAX_MEMBERS;
            if (isFull && reader.isAtWord("member")) {
                reader.take(TOO_MANY);
            } else {
                reader.takeWord("member");
            }
            int newName = takeNewName(reader);
            int newWeight = reader.takeNumber(1, 9);
            int newPosition = reader.takeNumber(0, MAX_POSITION);
            int newPurse = reader.takeNumber(0, 99);
            reader.takeSign(';');
            if (reader.isFine() && !isFull) {
                name[memberCount] = newName;
                weight[memberCount] = newWeight;
                position[memberCount] = newPosition;
                purse[memberCount] = newPurse;
                memberCount++;
            }
        }

        private int takeNewName(TextReader reader) {
            int newName = reader.name();
            int error = reader.errorAsName();
            if (error == 0 && memberNamed(newName) != NONE) {
                error = WRONG_NAME;
            }
            reader.take(error);
            return newName;
        }

        int takeKnownName(TextReader reader) {
            int member = memberNamed(reader.name());
            int error = reader.errorAsName();
            if (error == 0 && member == NONE) {
                error = WRONG_NAME;
            }
            reader.take(error);
            return member;
        }

        int memberNamed(int wanted) {
            for (int member = 0; member < memberCount; member++) {
                if (name[member] == wanted) {
                    return member;
                }
            }
            return NONE;
        }

        boolean hasMember(int member) {
            return member >= 0 && member < memberCount;
        }

        boolean hasChair(int chair) {
            return chair >= 0 && chair < chairs;
        }

        boolean isInReach(int member, int speaker) {
            return Math.abs(position[member] - position[speaker]) <= reach;
        }

        int totalWeight() {
            int total = 0;
            for (int member = 0; member < memberCount; member++) {
                total += weight[member];
            }
            return total;
        }

        int totalPurse() {
            int total = 0;
            for (int member = 0; member < memberCount; member++) {
                total += purse[member];
            }
            return total;
        }
    }

    /** What changes about the members. */
    private static final class Members {
        final int[] purse = new int[MAX_MEMBERS];
        final int[] sharpness = new int[MAX_MEMBERS];
        final int[] speeches = new int[MAX_MEMBERS];

        void clear(Setup setup) {
            for (int member = 0; member < MAX_MEMBERS; member++) {
                purse[member] = setup.purse[member];
                sharpness[member] = FULL_SHARPNESS;
                speeches[member] = 0;
            }
        }

        void copyFrom(Members other) {
            System.arraycopy(other.purse, 0, purse, 0, MAX_MEMBERS);
            System.arraycopy(other.sharpness, 0, sharpness, 0, MAX_MEMBERS);
            System.arraycopy(other.speeches, 0, speeches, 0, MAX_MEMBERS);
        }
    }

    /** The motions and what the members think of them. */
    private static final class Motions {
        int count;
        final int[] proposer = new int[MAX_MOTIONS];
        final int[] state = new int[MAX_MOTIONS];
        final int[] lather = new int[MAX_MOTIONS];
        final int[] latestSide = new int[MAX_MOTIONS];
        final int[] leanings = new int[MAX_MOTIONS * MAX_MEMBERS];

        void copyFrom(Motions other) {
            count = other.count;
            System.arraycopy(other.proposer, 0, proposer, 0, MAX_MOTIONS);
            System.arraycopy(other.state, 0, state, 0, MAX_MOTIONS);
            System.arraycopy(other.lather, 0, lather, 0, MAX_MOTIONS);
            System.arraycopy(other.latestSide, 0, latestSide, 0, MAX_MOTIONS);
            System.arraycopy(other.leanings, 0, leanings, 0, MAX_MOTIONS * MAX_MEMBERS);
        }

        boolean has(int motion) {
            return motion >= 0 && motion < count;
        }

        boolean isOpen(int motion) {
            return has(motion) && state[motion] == OPEN;
        }

        int leaningOf(int member, int motion) {
            return leanings[motion * MAX_MEMBERS + member];
        }

        void setLeaning(int member, int motion, int leaning) {
            leanings[motion * MAX_MEMBERS + member] = Math.max(-MAX_LEANING, Math.min(leaning, MAX_LEANING));
        }

        void dry() {
            for (int motion = 0; motion < count; motion++) {
                if (state[motion] == OPEN && lather[motion] > 0) {
                    lather[motion]--;
                }
            }
        }
    }

    /** The list of requests, the earliest first. */
    private static final class Requests {
        int count;
        final int[] member = new int[MAX_MEMBERS];
        final int[] motion = new int[MAX_MEMBERS];
        final int[] side = new int[MAX_MEMBERS];

        void copyFrom(Requests other) {
            count = other.count;
            System.arraycopy(other.member, 0, member, 0, MAX_MEMBERS);
            System.arraycopy(other.motion, 0, motion, 0, MAX_MEMBERS);
            System.arraycopy(other.side, 0, side, 0, MAX_MEMBERS);
        }

        int placeOf(int wanted) {
            for (int place = 0; place < count; place++) {
                if (member[place] == wanted) {
                    return place;
                }
            }
            return NONE;
        }

        /** Answers the number of earlier requests. There is room: a member has one request at most. */
        int add(int newMember, int newMotion, int newSide) {
            int place = count;
            if (place < MAX_MEMBERS) {
                member[place] = newMember;
                motion[place] = newMotion;
                side[place] = newSide;
                count++;
            }
            return place;
        }

        void removeAt(int place) {
            for (int i = place + 1; i < count; i++) {
                move(i, i - 1);
            }
            count--;
        }

        int removeAbout(int unwanted) {
            int kept = 0;
            for (int place = 0; place < count; place++) {
                if (motion[place] != unwanted) {
                    move(place, kept);
                    kept++;
                }
            }
            int removed = count - kept;
            count = kept;
            return removed;
        }

        private void move(int from, int to) {
            member[to] = member[from];
            motion[to] = motion[from];
            side[to] = side[from];
        }
    }

    /** The chairs with the running speeches. A free chair has no speaker, no remaining time and no mirror. */
    private static final class Chairs {
        final int[] speaker = new int[MAX_CHAIRS];
        final int[] motion = new int[MAX_CHAIRS];
        final int[] side = new int[MAX_CHAIRS];
        final int[] remaining = new int[MAX_CHAIRS];
        final int[] mirrors = new int[MAX_CHAIRS];

        void clear() {
            for (int chair = 0; chair < MAX_CHAIRS; chair++) {
                leave(chair);
            }
        }

        void copyFrom(Chairs other) {
            System.arraycopy(other.speaker, 0, speaker, 0, MAX_CHAIRS);
            System.arraycopy(other.motion, 0, motion, 0, MAX_CHAIRS);
            System.arraycopy(other.side, 0, side, 0, MAX_CHAIRS);
            System.arraycopy(other.remaining, 0, remaining, 0, MAX_CHAIRS);
            System.arraycopy(other.mirrors, 0, mirrors, 0, MAX_CHAIRS);
        }

        void leave(int chair) {
            speaker[chair] = NONE;
            remaining[chair] = 0;
            mirrors[chair] = 0;
        }

        boolean isFree(int chair) {
            return speaker[chair] == NONE;
        }

        int takenBy(int member) {
            for (int chair = 0; chair < MAX_CHAIRS; chair++) {
                if (speaker[chair] == member) {
                    return chair;
                }
            }
            return NONE;
        }

        boolean isSpeechAbout(int wanted) {
            for (int chair = 0; chair < MAX_CHAIRS; chair++) {
                if (!isFree(chair) && motion[chair] == wanted) {
                    return true;
                }
            }
            return false;
        }

        boolean isRebuttedAt(int chair) {
            return mirrors[chair] > 0;
        }

        int countMirrors() {
            int count = 0;
            for (int chair = 0; chair < MAX_CHAIRS; chair++) {
                count += mirrors[chair];
            }
            return count;
        }
    }

    /** Everything that undo restores, and the rules by which it changes. */
    private static final class Chamber {
        final Setup setup;
        final Members members = new Members();
        final Motions motions = new Motions();
        final Requests requests = new Requests();
        final Chairs chairs = new Chairs();
        int minute;
        int ranking;
        int tips;
        int votes;
        int rebuttals;
        int sharpenings;

        Chamber(Setup setup) {
            this.setup = setup;
        }

        void clear() {
            members.clear(setup);
            motions.count = 0;
            requests.count = 0;
            chairs.clear();
            minute = 0;
            ranking = ARRIVAL;
            tips = 0;
            votes = 0;
            rebuttals = 0;
            sharpenings = 0;
        }

        void copyFrom(Chamber other) {
            members.copyFrom(other.members);
            motions.copyFrom(other.motions);
            requests.copyFrom(other.requests);
            chairs.copyFrom(other.chairs);
            minute = other.minute;
            ranking = other.ranking;
            tips = other.tips;
            votes = other.votes;
            rebuttals = other.rebuttals;
            sharpenings = other.sharpenings;
        }

        // -- motions

        int refusalOfMotion(int member, int position) {
            if (!setup.hasMember(member)) {
                return NO_SUCH;
            }
            if (position < 0 || position > MAX_POSITION) {
                return BAD_ARGUMENT;
            }
            return motions.count >= MAX_MOTIONS ? WRONG_STATE : ALLOWED;
        }

        int addMotion(int member, int position) {
            int motion = motions.count;
            motions.proposer[motion] = member;
            motions.state[motion] = OPEN;
            motions.lather[motion] = 0;
            motions.latestSide[motion] = NO_SIDE;
            for (int other = 0; other < setup.memberCount; other++) {
                motions.setLeaning(other, motion, 5 - Math.abs(setup.position[other] - position));
            }
            motions.count++;
            return motion;
        }

        int refusalOfWithdrawal(int motion) {
            if (!motions.has(motion)) {
                return NO_SUCH;
            }
            return !motions.isOpen(motion) || chairs.isSpeechAbout(motion) ? WRONG_STATE : ALLOWED;
        }

        /** Answers the number of requests that fall with the motion. */
        int closeMotion(int motion, int newState) {
            motions.state[motion] = newState;
            return requests.removeAbout(motion);
        }

        // -- requests and speeches

        int refusalOfRequest(int member, int motion) {
            if (!setup.hasMember(member) || !motions.has(motion)) {
                return NO_SUCH;
            }
            boolean isWaiting = requests.placeOf(member) != NONE;
            boolean isSpeaking = chairs.takenBy(member) != NONE;
            return !motions.isOpen(motion) || isWaiting || isSpeaking ? WRONG_STATE : ALLOWED;
        }

        int countFreeMirrors() {
            return setup.mirrors - chairs.countMirrors();
        }

        int refusalOfRebuttal(int member, int chair) {
            if (!setup.hasMember(member) || !setup.hasChair(chair)) {
                return NO_SUCH;
            }
            if (chairs.isFree(chair) || chairs.isRebuttedAt(chair) || countFreeMirrors() <= 0) {
                return WRONG_STATE;
            }
            if (chairs.takenBy(member) != NONE) {
                return WRONG_STATE;
            }
            int leaningToSide = motions.leaningOf(member, chairs.motion[chair]) * chairs.side[chair];
            return leaningToSide < 0 ? ALLOWED : WRONG_STATE;
        }

        int addRebuttal(int chair) {
            chairs.mirrors[chair] = 1;
            rebuttals++;
            return countFreeMirrors();
        }

        static int refusalOfRanking(int ranking) {
            return ranking < ARRIVAL || ranking > CONTRAST ? NO_SUCH : ALLOWED;
        }

        /** Answers the place of the request that a ranking puts first. */
        int firstPlace(int ranking) {
            int first = NONE;
            int best = 0;
            for (int place = 0; place < requests.count; place++) {
                int rank = rankOf(place, ranking);
                if (first == NONE || rank < best) {
                    first = place;
                    best = rank;
                }
            }
            return first;
        }

        /** A request with a smaller rank comes first. */
        private int rankOf(int place, int ranking) {
            int member = requests.member[place];
            switch (ranking) {
                case HEAVIEST:
                    return -setup.weight[member];
                case QUIETEST:
                    return members.speeches[member];
                case CONTRAST:
                    int latest = motions.latestSide[requests.motion[place]];
                    return latest == -requests.side[place] ? 0 : 1;
                default:
                    return 0;
            }
        }

        private void startSpeech(int chair, int place) {
            int member = requests.member[place];
            int motion = requests.motion[place];
            int side = requests.side[place];
            requests.removeAt(place);
            chairs.speaker[chair] = member;
            chairs.motion[chair] = motion;
            chairs.side[chair] = side;
            chairs.remaining[chair] = setup.speechTime;
            motions.latestSide[motion] = side;
            members.speeches[member]++;
        }

        private void endSpeech(int chair) {
            int speaker = chairs.speaker[chair];
            int motion = chairs.motion[chair];
            int change = chairs.side[chair] * (chairs.isRebuttedAt(chair) ? 1 : 2);
            for (int member = 0; member < setup.memberCount; member++) {
                if (member != speaker && setup.isInReach(member, speaker)) {
                    motions.setLeaning(member, motion, motions.leaningOf(member, motion) + change);
                }
            }
            motions.lather[motion] = Math.min(motions.lather[motion] + 1, MAX_LATHER);
            chairs.leave(chair);
        }

        // -- minutes

        int refusalOfWait(int minutes) {
            if (minutes < 1 || minutes > MAX_WAIT) {
                return BAD_ARGUMENT;
            }
            return minute + minutes > MAX_MINUTE ? WRONG_STATE : ALLOWED;
        }

        /** Answers the number of speeches that end. */
        int passMinutes(int minutes) {
            int ended = 0;
            for (int passed = 0; passed < minutes; passed++) {
                ended += passMinute();
            }
            return ended;
        }

        int passMinute() {
            minute++;
            if (setup.dryingTime > 0 && minute % setup.dryingTime == 0) {
                motions.dry();
            }
            int ended = 0;
            for (int chair = 0; chair < setup.chairs; chair++) {
                if (!chairs.isFree(chair)) {
                    chairs.remaining[chair]--;
                    if (chairs.remaining[chair] == 0) {
                        endSpeech(chair);
                        ended++;
                    }
                }
            }
            for (int chair = 0; chair < setup.chairs; chair++) {
                int place = firstPlace(ranking);
                if (chairs.isFree(chair) && place != NONE) {
                    startSpeech(chair, place);
                }
            }
            return ended;
        }

        // -- votes

        int voteOf(int member, int motion) {
            int leaning = motions.leaningOf(member, motion);
            if (members.sharpness[member] == 0 || leaning == 0) {
                return NO_SIDE;
            }
            return leaning > 0 ? FOR : AGAINST;
        }

        int countVoters(int motion) {
            int voters = 0;
            for (int member = 0; member < setup.memberCount; member++) {
                if (voteOf(member, motion) != NO_SIDE) {
                    voters++;
                }
            }
            return voters;
        }

        int weightOfVotes(int motion, int side) {
            int total = 0;
            for (int member = 0; member < setup.memberCount; member++) {
                if (voteOf(member, motion) == side) {
                    total += setup.weight[member];
                }
            }
            return total;
        }

        /** Answers by how much the votes for a motion outweigh those against it. */
        int marginOf(int motion) {
            return weightOfVotes(motion, FOR) - weightOfVotes(motion, AGAINST);
        }

        int lightestTurner(int motion) {
            int margin = marginOf(motion);
            int lightest = NONE;
            int least = 0;
            for (int member = 0; member < setup.memberCount; member++) {
                int vote = voteOf(member, motion);
                int weight = setup.weight[member];
                int turnedMargin = margin - 2 * vote * weight;
                boolean turns = (turnedMargin > 0) != (margin > 0);
                if (turns && (lightest == NONE || weight < least)) {
                    lightest = member;
                    least = weight;
                }
            }
            return lightest;
        }

        int obstacleTo(int motion) {
            if (!motions.isOpen(motion)) {
                return DECIDED;
            }
            if (motions.lather[motion] < setup.requiredLevel) {
                return TOO_DRY;
            }
            if (chairs.isSpeechAbout(motion)) {
                return SPEECH_RUNNING;
            }
            return countVoters(motion) < setup.quorum ? NO_QUORUM : MAY_VOTE;
        }

        int refusalOfVote(int motion) {
            if (!motions.has(motion)) {
                return NO_SUCH;
            }
            return obstacleTo(motion) == MAY_VOTE ? ALLOWED : WRONG_STATE;
        }

        boolean holdVote(int motion) {
            boolean isPassed = marginOf(motion) > 0;
            int winner = isPassed ? FOR : AGAINST;
            for (int member = 0; member < setup.memberCount; member++) {
                int vote = voteOf(member, motion);
                if (vote != NO_SIDE) {
                    members.sharpness[member]--;
                }
                if (vote == winner && members.purse[member] > 0) {
                    members.purse[member]--;
                    tips++;
                }
            }
            closeMotion(motion, isPassed ? PASSED : REJECTED);
            votes++;
            return isPassed;
        }

        // -- razors

        int refusalOfSharpening(int member) {
            if (!setup.hasMember(member)) {
                return NO_SUCH;
            }
            boolean isSharp = members.sharpness[member] == FULL_SHARPNESS;
            return isSharp || members.purse[member] < SHARPENING_PRICE ? WRONG_STATE : ALLOWED;
        }

        int sharpenRazor(int member) {
            members.purse[member] -= SHARPENING_PRICE;
            members.sharpness[member] = FULL_SHARPNESS;
            sharpenings++;
            return members.purse[member];
        }

        // -- contradictions

        int countContradictions() {
            int coins = tips + SHARPENING_PRICE * sharpenings;
            int doubled = 0;
            for (int member = 0; member < setup.memberCount; member++) {
                coins += members.purse[member];
                if (requests.placeOf(member) != NONE && chairs.takenBy(member) != NONE) {
                    doubled++;
                }
            }
            int voted = 0;
            for (int motion = 0; motion < motions.count; motion++) {
                if (motions.state[motion] == PASSED || motions.state[motion] == REJECTED) {
                    voted++;
                }
            }
            int stale = 0;
            for (int place = 0; place < requests.count; place++) {
                if (!motions.isOpen(requests.motion[place])) {
                    stale++;
                }
            }
            return Math.abs(setup.totalPurse() - coins) + Math.abs(votes - voted) + doubled + stale;
        }
    }

    /** The states before the latest changes, in a ring. */
    private static final class History {
        final Chamber[] kept = new Chamber[UNDO_LIMIT];
        int next;
        int count;

        History(Setup setup) {
            for (int i = 0; i < UNDO_LIMIT; i++) {
                kept[i] = new Chamber(setup);
            }
        }

        void forget() {
            count = 0;
        }

        void remember(Chamber chamber) {
            kept[next].copyFrom(chamber);
            next = next < UNDO_LIMIT - 1 ? next + 1 : 0;
            count = Math.min(count + 1, UNDO_LIMIT);
        }

        void stepBack(Chamber chamber) {
            next = next > 0 ? next - 1 : UNDO_LIMIT - 1;
            count--;
            chamber.copyFrom(kept[next]);
        }
    }

    /** The commands of the latest script in the order of their words, and how far they were executed. */
    private static final class Script {
        private static final int PROPOSE = 0;
        private static final int ASK = 1;
        private static final int REBUT = 2;
        private static final int WAIT = 3;
        private static final int VOTE = 4;
        private static final int WITHDRAW = 5;
        private static final int SHARPEN = 6;
        private static final int RANK = 7;
        private static final int REPEAT = 8;

        final int[] kind = new int[MAX_COMMANDS];
        final int[] member = new int[MAX_COMMANDS];
        final int[] side = new int[MAX_COMMANDS];
        final int[] number = new int[MAX_COMMANDS];
        // The index behind a command and all that stands in its brackets.
        final int[] after = new int[MAX_COMMANDS];
        int count;
        int executed;
        boolean isStopped;

        void clear() {
            count = 0;
            executed = 0;
            isStopped = false;
        }

        private void readBlock(TextReader reader, Setup setup, int depth) {
            for (int i = 0; i <= MAX_COMMANDS && reader.isFine() && reader.isAtWord(); i++) {
                readCommand(reader, setup, depth);
                reader.takeSign(';');
            }
        }

        private void readCommand(TextReader reader, Setup setup, int depth) {
            int newKind = kindOfWord(reader);
            if (newKind == NONE) {
                reader.take(SYNTAX);
            } else if (count >= MAX_COMMANDS) {
                reader.take(TOO_MANY);
            } else {
                int index = count;
                count++;
                kind[index] = newKind;
                reader.take(0);
                readOperands(reader, setup, index);
                if (newKind == REPEAT) {
                    readBrackets(reader, setup, depth);
                }
                after[index] = count;
            }
        }

        private static int kindOfWord(TextReader reader) {
            if (reader.isAtWord("propose")) {
                return PROPOSE;
            }
            if (reader.isAtWord("ask")) {
                return ASK;
            }
            if (reader.isAtWord("rebut")) {
                return REBUT;
            }
            if (reader.isAtWord("wait")) {
                return WAIT;
            }
            if (reader.isAtWord("vote")) {
                return VOTE;
            }
            if (reader.isAtWord("withdraw")) {
                return WITHDRAW;
            }
            if (reader.isAtWord("sharpen")) {
                return SHARPEN;
            }
            if (reader.isAtWord("rank")) {
                return RANK;
            }
            return reader.isAtWord("repeat") ? REPEAT : NONE;
        }

        private void readOperands(TextReader reader, Setup setup, int index) {
            switch (kind[index]) {
                case PROPOSE:
                    member[index] = setup.takeKnownName(reader);
                    number[index] = reader.takeNumber(0, MAX_POSITION);
                    break;
                case ASK:
                    member[index] = setup.takeKnownName(reader);
                    side[index] = takeSide(reader);
                    number[index] = reader.takeNumber(0, MAX_MOTIONS - 1);
                    break;
                case REBUT:
                    member[index] = setup.takeKnownName(reader);
                    number[index] = reader.takeNumber(0, MAX_CHAIRS - 1);
                    break;
                case WAIT:
                    number[index] = reader.takeNumber(1, MAX_WAIT);
                    break;
                case SHARPEN:
                    member[index] = setup.takeKnownName(reader);
                    break;
                case RANK:
                    number[index] = takeRanking(reader);
                    break;
                case REPEAT:
                    number[index] = reader.takeNumber(0, 20);
                    break;
                default:
                    number[index] = reader.takeNumber(0, MAX_MOTIONS - 1);
                    break;
            }
        }

        private static int takeSide(TextReader reader) {
            boolean isFor = reader.isAtWord("for");
            reader.take(isFor || reader.isAtWord("against") ? 0 : SYNTAX);
            return isFor ? FOR : AGAINST;
        }

        private static int takeRanking(TextReader reader) {
            int ranking = NONE;
            if (reader.isAtWord("arrival")) {
                ranking = ARRIVAL;
            } else if (reader.isAtWord("heaviest")) {
                ranking = HEAVIEST;
            } else if (reader.isAtWord("quietest")) {
                ranking = QUIETEST;
            } else if (reader.isAtWord("contrast")) {
                ranking = CONTRAST;
            }
            reader.take(ranking == NONE ? SYNTAX : 0);
            return ranking;
        }

        private void readBrackets(TextReader reader, Setup setup, int depth) {
            if (depth >= MAX_BRACKETS) {
                reader.take(reader.isAtSign('(') ? TOO_MANY : SYNTAX);
                return;
            }
            reader.takeSign('(');
            readBlock(reader, setup, depth + 1);
            reader.takeSign(')');
        }

        private void runBlock(Chamber chamber, int from, int to, int depth) {
            for (int i = from; i < to && !isStopped; i = Math.max(i + 1, after[i])) {
                if (kind[i] == REPEAT) {
                    runRepeat(chamber, i, depth);
                } else if (executed >= MAX_EXECUTED || refusalOf(chamber, i) != ALLOWED) {
                    isStopped = true;
                } else {
                    perform(chamber, i);
                    executed++;
                }
            }
        }

        private void runRepeat(Chamber chamber, int i, int depth) {
            for (int time = 0; time < number[i] && depth < MAX_BRACKETS; time++) {
                runBlock(chamber, i + 1, after[i], depth + 1);
            }
        }

        private int refusalOf(Chamber chamber, int i) {
            switch (kind[i]) {
                case PROPOSE:
                    return chamber.refusalOfMotion(member[i], number[i]);
                case ASK:
                    return chamber.refusalOfRequest(member[i], number[i]);
                case REBUT:
                    return chamber.refusalOfRebuttal(member[i], number[i]);
                case WAIT:
                    return chamber.refusalOfWait(number[i]);
                case VOTE:
                    return chamber.refusalOfVote(number[i]);
                case WITHDRAW:
                    return chamber.refusalOfWithdrawal(number[i]);
                case SHARPEN:
                    return chamber.refusalOfSharpening(member[i]);
                default:
                    return Chamber.refusalOfRanking(number[i]);
            }
        }

        private void perform(Chamber chamber, int i) {
            switch (kind[i]) {
                case PROPOSE:
                    chamber.addMotion(member[i], number[i]);
                    break;
                case ASK:
                    chamber.requests.add(member[i], number[i], side[i]);
                    break;
                case REBUT:
                    chamber.addRebuttal(number[i]);
                    break;
                case WAIT:
                    chamber.passMinutes(number[i]);
                    break;
                case VOTE:
                    chamber.holdVote(number[i]);
                    break;
                case WITHDRAW:
                    chamber.closeMotion(number[i], WITHDRAWN);
                    break;
                case SHARPEN:
                    chamber.sharpenRazor(member[i]);
                    break;
                default:
                    chamber.ranking = number[i];
                    break;
            }
        }
    }
}
