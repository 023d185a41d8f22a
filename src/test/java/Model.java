import java.util.ArrayDeque;
import java.util.ArrayList;
import java.util.Deque;
import java.util.List;
import java.util.NoSuchElementException;
import java.util.regex.Matcher;
import java.util.regex.Pattern;

/**
 * The document once more, written the other way round: with lists and objects, and texts read from a list of tokens.
 * ModelTest holds it against the class.
 */
final class Model {
    /** A request, and later the speech that it becomes. */
    static final class Talk {
        int member;
        int motion;
        boolean isFor;
        int remaining;
        boolean isRebutted;

        Talk copy() {
            Talk t = new Talk();
            t.member = member;
            t.motion = motion;
            t.isFor = isFor;
            t.remaining = remaining;
            t.isRebutted = isRebutted;
            return t;
        }
    }

    static final class Motion {
        int proposer;
        int lather;
        int state;
        Boolean latest;
        int[] leanings;

        Motion copy() {
            Motion m = new Motion();
            m.proposer = proposer;
            m.lather = lather;
            m.state = state;
            m.latest = latest;
            m.leanings = leanings.clone();
            return m;
        }
    }

    static final class House {
        int chairs;
        int mirrors;
        int speechTime;
        int reach;
        int dryingTime;
        int requiredLevel;
        int quorum;
        List<String> names = new ArrayList<>();
        List<int[]> numbers = new ArrayList<>();

        int size() {
            return names.size();
        }

        int weight(int member) {
            return numbers.get(member)[0];
        }

        int position(int member) {
            return numbers.get(member)[1];
        }
    }

    static final class Sitting {
        House house;
        int minute;
        int ranking;
        int tips;
        int votes;
        int rebuttals;
        int[] purse;
        int[] sharpness;
        int[] speeches;
        List<Motion> motions = new ArrayList<>();
        List<Talk> requests = new ArrayList<>();
        Talk[] chairs;

        Sitting(House house) {
            this.house = house;
            purse = new int[house.size()];
            sharpness = new int[house.size()];
            speeches = new int[house.size()];
            for (int m = 0; m < house.size(); m++) {
                purse[m] = house.numbers.get(m)[2];
                sharpness[m] = 5;
            }
            chairs = new Talk[house.chairs];
        }

        Sitting copy() {
            Sitting s = new Sitting(house);
            s.minute = minute;
            s.ranking = ranking;
            s.tips = tips;
            s.votes = votes;
            s.rebuttals = rebuttals;
            s.purse = purse.clone();
            s.sharpness = sharpness.clone();
            s.speeches = speeches.clone();
            motions.forEach(m -> s.motions.add(m.copy()));
            requests.forEach(r -> s.requests.add(r.copy()));
            for (int c = 0; c < chairs.length; c++) {
                s.chairs[c] = chairs[c] == null ? null : chairs[c].copy();
            }
            return s;
        }

        boolean talksAbout(int motion) {
            for (Talk t : chairs) {
                if (t != null && t.motion == motion) {
                    return true;
                }
            }
            return false;
        }

        Talk first(int by) {
            Talk first = null;
            for (Talk r : requests) {
                if (first == null || precedes(r, first, by)) {
                    first = r;
                }
            }
            return first;
        }

        boolean precedes(Talk r, Talk s, int by) {
            if (by == 1) {
                return house.weight(r.member) > house.weight(s.member);
            }
            if (by == 2) {
                return speeches[r.member] < speeches[s.member];
            }
            return by == 3 && contrasts(r) && !contrasts(s);
        }

        boolean contrasts(Talk r) {
            Boolean latest = motions.get(r.motion).latest;
            return latest != null && latest != r.isFor;
        }

        int step() {
            minute++;
            int ended = 0;
            if (minute % house.dryingTime == 0) {
                motions.forEach(m -> m.lather -= m.state == 0 && m.lather > 0 ? 1 : 0);
            }
            for (int c = 0; c < chairs.length; c++) {
                if (chairs[c] != null && --chairs[c].remaining == 0) {
                    ended++;
                    end(chairs[c]);
                    chairs[c] = null;
                }
            }
            for (int c = 0; c < chairs.length; c++) {
                if (chairs[c] == null && !requests.isEmpty()) {
                    Talk t = first(ranking);
                    requests.remove(t);
                    t.remaining = house.speechTime;
                    chairs[c] = t;
                    speeches[t.member]++;
                    motions.get(t.motion).latest = t.isFor;
                }
            }
            return ended;
        }

        void end(Talk t) {
            Motion m = motions.get(t.motion);
            for (int i = 0; i < house.size(); i++) {
                int distance = house.position(i) - house.position(t.member);
                if (i != t.member && distance <= house.reach && -distance <= house.reach) {
                    int sway = t.isRebutted ? 1 : 2;
                    m.leanings[i] += t.isFor ? sway : -sway;
                    if (m.leanings[i] > 20) {
                        m.leanings[i] = 20;
                    }
                    if (m.leanings[i] < -20) {
                        m.leanings[i] = -20;
                    }
                }
            }
            if (m.lather < 9) {
                m.lather++;
            }
        }

        int ballot(int member, int motion) {
            return sharpness[member] > 0 ? Integer.signum(motions.get(motion).leanings[member]) : 0;
        }

        int sum(int motion, int side, int turned) {
            int sum = 0;
            for (int i = 0; i < house.size(); i++) {
                int ballot = i == turned ? -ballot(i, motion) : ballot(i, motion);
                sum += ballot == side ? house.weight(i) : 0;
            }
            return sum;
        }

        boolean passes(int motion, int turned) {
            return sum(motion, 1, turned) > sum(motion, -1, turned);
        }

        int voters(int motion) {
            int voters = 0;
            for (int i = 0; i < house.size(); i++) {
                voters += ballot(i, motion) != 0 ? 1 : 0;
            }
            return voters;
        }

        int obstacle(int motion) {
            Motion m = motions.get(motion);
            return m.state != 0 ? 1 : m.lather < house.requiredLevel ? 2 : talksAbout(motion) ? 3
                : voters(motion) < house.quorum ? 4 : 0;
        }

        int decisive(int motion) {
            int best = -1;
            for (int i = house.size() - 1; i >= 0; i--) {
                boolean turns = ballot(i, motion) != 0 && passes(motion, i) != passes(motion, -1);
                if (turns && (best < 0 || house.weight(i) <= house.weight(best))) {
                    best = i;
                }
            }
            return best;
        }

        boolean isBusy(int member) {
            for (Talk t : chairs) {
                if (t != null && t.member == member) {
                    return true;
                }
            }
            return requests.stream().anyMatch(r -> r.member == member);
        }
    }

    static final class TextError extends RuntimeException {
        private static final long serialVersionUID = 1L;
        final int code;
        final int position;

        TextError(int code, int position) {
            this.code = code;
            this.position = position;
        }
    }

    private static final class Token {
        String text;
        int position;

        boolean isWord() {
            return text.matches("[a-z]+");
        }

        boolean isNumber() {
            return text.matches("[0-9]+");
        }
    }

    private static final class Command {
        String word;
        int member;
        boolean isFor;
        int number;
        List<Command> body = new ArrayList<>();
    }

    Sitting now;
    Deque<Sitting> past = new ArrayDeque<>();
    Sitting[] slots = new Sitting[2];
    StringBuilder text = new StringBuilder();
    String output = "";
    int errorCode = 0;
    int errorPosition = -1;
    private List<Token> tokens;
    private int next;
    private int commands;

    Model() {
        text.append("house 2 1 3 6 5 2 2; member ada 3 4 5; member ben 2 9 0; member cai 5 15 9; member dov 1 12 3; member eli 4 6 1;");
        load();
    }

    // ---- texts

    private void read() {
        tokens = new ArrayList<>();
        next = 0;
        Matcher m = Pattern.compile("[a-z]+|[0-9]+|[^ \n]", Pattern.DOTALL).matcher(text);
        while (m.find()) {
            Token t = new Token();
            t.text = m.group();
            t.position = m.start();
            tokens.add(t);
        }
        Token end = new Token();
        end.text = "";
        end.position = text.length();
        tokens.add(end);
        text.setLength(0);
    }

    private Token token() {
        return tokens.get(next);
    }

    private void must(boolean holds, int code) {
        if (!holds) {
            throw new TextError(code, token().position);
        }
    }

    private void fixed(String wanted) {
        must(token().text.equals(wanted), 1);
        next++;
    }

    private int number(int least, int most) {
        must(token().isNumber(), 1);
        java.math.BigInteger value = new java.math.BigInteger(token().text);
        must(value.bitLength() < 20 && value.intValue() >= least && value.intValue() <= most, 2);
        next++;
        return value.intValue();
    }

    private String name() {
        must(token().isWord(), 1);
        must(token().text.length() <= 6, 2);
        return token().text;
    }

    int load() {
        read();
        try {
            House house = setup();
            now = new Sitting(house);
            past.clear();
            slots = new Sitting[2];
            errorCode = 0;
            errorPosition = -1;
        } catch (TextError e) {
            errorCode = e.code;
            errorPosition = e.position;
        }
        return errorCode;
    }

    private House setup() {
        House h = new House();
        fixed("house");
        h.chairs = number(1, 4);
        h.mirrors = number(0, 5);
        h.speechTime = number(1, 20);
        h.reach = number(0, 20);
        h.dryingTime = number(2, 30);
        h.requiredLevel = number(0, 9);
        h.quorum = number(0, 12);
        fixed(";");
        do {
            must(token().text.equals("member"), 1);
            must(h.size() < 12, 4);
            next++;
            String name = name();
            must(!h.names.contains(name), 3);
            next++;
            int[] numbers = {number(1, 9), number(0, 20), number(0, 99)};
            fixed(";");
            h.names.add(name);
            h.numbers.add(numbers);
        } while (!token().text.isEmpty());
        return h;
    }

    private List<Command> script(int depth) {
        List<Command> block = new ArrayList<>();
        while (!token().text.isEmpty() && !token().text.equals(")")) {
            block.add(command(depth));
            fixed(";");
        }
        return block;
    }

    private Command command(int depth) {
        Command c = new Command();
        c.word = token().text;
        must(List.of("propose", "ask", "rebut", "wait", "vote", "withdraw", "sharpen", "rank", "repeat").contains(c.word), 1);
        must(++commands <= 30, 4);
        next++;
        if (List.of("propose", "ask", "rebut", "sharpen").contains(c.word)) {
            c.member = now.house.names.indexOf(name());
            must(c.member >= 0, 3);
            next++;
        }
        if (c.word.equals("ask")) {
            c.isFor = token().text.equals("for");
            must(c.isFor || token().text.equals("against"), 1);
            next++;
        }
        if (c.word.equals("rank")) {
            c.number = List.of("arrival", "heaviest", "quietest", "contrast").indexOf(token().text);
            must(c.number >= 0, 1);
            next++;
        } else if (!c.word.equals("sharpen")) {
            boolean isAboutMotion = List.of("ask", "vote", "withdraw").contains(c.word);
            int most = isAboutMotion ? 15 : c.word.equals("rebut") ? 3 : c.word.equals("wait") ? 60 : 20;
            c.number = number(c.word.equals("wait") ? 1 : 0, most);
        }
        if (c.word.equals("repeat")) {
            must(token().text.equals("("), 1);
            must(depth < 2, 4);
            next++;
            c.body = script(depth + 1);
            fixed(")");
        }
        return c;
    }

    int runScript() {
        read();
        List<Command> block;
        commands = 0;
        try {
            block = script(0);
            must(token().text.isEmpty(), 1);
            errorCode = 0;
            errorPosition = -1;
        } catch (TextError e) {
            errorCode = e.code;
            errorPosition = e.position;
            return -1;
        }
        Sitting before = now.copy();
        Deque<Sitting> earlier = new ArrayDeque<>(past);
        List<Command> flat = new ArrayList<>();
        unfold(block, flat);
        int executed = 0;
        try {
            while (executed < flat.size()) {
                execute(flat.get(executed));
                executed++;
            }
        } catch (IndexOutOfBoundsException | IllegalArgumentException | IllegalStateException e) {
            // The script ends before this command.
        }
        past = earlier;
        remember(before);
        return executed;
    }

    private void unfold(List<Command> block, List<Command> flat) {
        for (Command c : block) {
            if (c.word.equals("repeat")) {
                for (int i = 0; i < c.number; i++) {
                    unfold(c.body, flat);
                }
            } else if (flat.size() < 40) {
                flat.add(c);
            }
        }
    }

    private void execute(Command c) {
        switch (c.word) {
            case "propose": propose(c.member, c.number); break;
            case "ask": request(c.member, c.number, c.isFor); break;
            case "rebut": rebut(c.member, c.number); break;
            case "wait": advance(c.number); break;
            case "vote": vote(c.number); break;
            case "withdraw": withdraw(c.number); break;
            case "sharpen": sharpen(c.member); break;
            default: setRanking(c.number); break;
        }
    }

    // ---- changes

    private void remember(Sitting before) {
        past.addLast(before);
        if (past.size() > 8) {
            past.removeFirst();
        }
    }

    private void change() {
        remember(now.copy());
    }

    private static void exists(int index, int size) {
        if (index < 0 || index >= size) {
            throw new IndexOutOfBoundsException();
        }
    }

    private static void argument(boolean holds) {
        if (!holds) {
            throw new IllegalArgumentException();
        }
    }

    private static void state(boolean holds) {
        if (!holds) {
            throw new IllegalStateException();
        }
    }

    int propose(int member, int position) {
        exists(member, now.house.size());
        argument(position >= 0 && position <= 20);
        state(now.motions.size() < 16);
        change();
        Motion m = new Motion();
        m.proposer = member;
        m.leanings = new int[now.house.size()];
        for (int i = 0; i < m.leanings.length; i++) {
            int there = now.house.position(i);
            m.leanings[i] = there > position ? 5 - there + position : 5 + there - position;
        }
        now.motions.add(m);
        return now.motions.size() - 1;
    }

    int request(int member, int motion, boolean isFor) {
        exists(member, now.house.size());
        exists(motion, now.motions.size());
        state(now.motions.get(motion).state == 0 && !now.isBusy(member));
        change();
        Talk t = new Talk();
        t.member = member;
        t.motion = motion;
        t.isFor = isFor;
        now.requests.add(t);
        return now.requests.size() - 1;
    }

    int freeMirrors() {
        int free = now.house.mirrors;
        for (Talk t : now.chairs) {
            free -= t != null && t.isRebutted ? 1 : 0;
        }
        return free;
    }

    int rebut(int member, int chair) {
        exists(member, now.house.size());
        exists(chair, now.chairs.length);
        Talk t = now.chairs[chair];
        state(t != null && !t.isRebutted && freeMirrors() > 0);
        for (Talk other : now.chairs) {
            state(other == null || other.member != member);
        }
        int leaning = now.motions.get(t.motion).leanings[member];
        state(t.isFor ? leaning < 0 : leaning > 0);
        change();
        t.isRebutted = true;
        now.rebuttals++;
        return freeMirrors();
    }

    int advance(int minutes) {
        argument(minutes >= 1 && minutes <= 60);
        state(now.minute + minutes <= 9999);
        change();
        int ended = 0;
        for (int i = 0; i < minutes; i++) {
            ended += now.step();
        }
        return ended;
    }

    boolean vote(int motion) {
        exists(motion, now.motions.size());
        state(now.obstacle(motion) == 0);
        change();
        boolean passes = now.passes(motion, -1);
        for (int i = 0; i < now.house.size(); i++) {
            int ballot = now.ballot(i, motion);
            now.sharpness[i] -= ballot != 0 ? 1 : 0;
            if (ballot == (passes ? 1 : -1) && now.purse[i] >= 1) {
                now.purse[i]--;
                now.tips++;
            }
        }
        now.votes++;
        now.motions.get(motion).state = passes ? 1 : 2;
        now.requests.removeIf(r -> r.motion == motion);
        return passes;
    }

    int withdraw(int motion) {
        exists(motion, now.motions.size());
        state(now.motions.get(motion).state == 0 && !now.talksAbout(motion));
        change();
        int before = now.requests.size();
        now.motions.get(motion).state = 3;
        now.requests.removeIf(r -> r.motion == motion);
        return before - now.requests.size();
    }

    int sharpen(int member) {
        exists(member, now.house.size());
        state(now.sharpness[member] != 5 && now.purse[member] >= 2);
        change();
        now.sharpness[member] = 5;
        now.purse[member] -= 2;
        return now.purse[member];
    }

    int setRanking(int ranking) {
        exists(ranking, 4);
        change();
        int previous = now.ranking;
        now.ranking = ranking;
        return previous;
    }

    int undo() {
        state(!past.isEmpty());
        now = past.removeLast();
        return past.size();
    }

    int save(int slot) {
        exists(slot, 2);
        slots[slot] = now.copy();
        return now.minute;
    }

    int restore(int slot) {
        exists(slot, 2);
        if (slots[slot] == null) {
            throw new NoSuchElementException();
        }
        now = slots[slot].copy();
        past.clear();
        return now.minute;
    }

    // ---- what Check.all shows of an object, told by the model

    private int untilSpeech(int member) {
        Sitting s = now.copy();
        for (int minutes = 0; minutes <= 300; minutes++) {
            if (s.requests.stream().noneMatch(r -> r.member == member)) {
                return minutes == 0 ? -1 : minutes;
            }
            s.step();
        }
        return -1;
    }

    private int untilVote(int motion) {
        Sitting s = now.copy();
        for (int minutes = 0; minutes <= 300; minutes++) {
            if (s.obstacle(motion) == 0) {
                return minutes;
            }
            s.step();
        }
        return -1;
    }

    int latherAfter(int motion, int minutes) {
        exists(motion, now.motions.size());
        argument(minutes >= 0 && minutes <= 300);
        Sitting s = now.copy();
        for (int i = 0; i < minutes; i++) {
            s.step();
        }
        return s.motions.get(motion).lather;
    }

    private int chairOf(int member) {
        for (int c = 0; c < now.chairs.length; c++) {
            if (now.chairs[c] != null && now.chairs[c].member == member) {
                return c;
            }
        }
        return -1;
    }

    private int placeInList(int member) {
        for (int i = 0; i < now.requests.size(); i++) {
            if (now.requests.get(i).member == member) {
                return i;
            }
        }
        return -1;
    }

    private String speech(Talk t) {
        return now.house.names.get(t.member) + (t.isFor ? "+" : "-") + t.motion;
    }

    void writeChairs() {
        List<String> parts = new ArrayList<>();
        for (Talk t : now.chairs) {
            parts.add(t == null ? "." : speech(t) + (t.isRebutted ? "!" : "") + ":" + t.remaining);
        }
        output = String.join(" ", parts);
    }

    void writeRequests() {
        List<String> parts = new ArrayList<>();
        now.requests.forEach(t -> parts.add(speech(t)));
        output = String.join(",", parts);
    }

    String all() {
        StringBuilder s = new StringBuilder();
        s.append("minute ").append(now.minute).append(" ranking ").append(now.ranking);
        s.append(" mirrors ").append(freeMirrors()).append(" requests ").append(now.requests.size());
        s.append(" tips ").append(now.tips).append(" votes ").append(now.votes);
        s.append(" rebuttals ").append(now.rebuttals).append(" contradictions 0");
        for (int ranking = 0; ranking < 4; ranking++) {
            Talk first = now.first(ranking);
            s.append(" first ").append(first == null ? -1 : first.member);
        }
        for (int member = now.house.size() - 1; member >= 0; member--) {
            s.append("; member ").append(now.house.weight(member)).append(' ').append(now.purse[member]);
            s.append(' ').append(now.sharpness[member]).append(' ').append(now.speeches[member]);
            s.append(' ').append(chairOf(member)).append(' ').append(placeInList(member));
            s.append(' ').append(untilSpeech(member));
            for (Motion m : now.motions) {
                s.append(" leaning ").append(m.leanings[member]);
            }
        }
        for (int motion = 0; motion < now.motions.size(); motion++) {
            Motion m = now.motions.get(motion);
            s.append("; motion ").append(m.proposer).append(' ').append(m.state).append(' ').append(m.lather);
            s.append(' ').append(now.obstacle(motion)).append(' ').append(now.decisive(motion));
            s.append(' ').append(untilVote(motion));
        }
        for (int c = now.chairs.length - 1; c >= 0; c--) {
            Talk t = now.chairs[c];
            s.append("; chair ").append(t == null ? "-1 0 false -1" : t.member + " " + t.remaining + " " + t.isRebutted + " " + t.motion);
        }
        return s + "; undo " + past.size() + " error " + errorCode + " " + errorPosition + " text " + text.length() + " output " + output;
    }
}
