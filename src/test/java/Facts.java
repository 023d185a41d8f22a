import java.util.LinkedHashMap;
import java.util.Map;

/** Everything that an object of a small house tells, fact by fact, and what differs between two such looks. */
final class Facts {
    private final Map<String, String> told = new LinkedHashMap<>();

    private Facts() {
    }

    static Facts of(BarberParliament x) {
        Facts facts = new Facts();
        facts.ofTexts(x);
        facts.ofTheChamber(x);
        for (int member = 0; member < x.memberCount(); member++) {
            facts.ofMember(x, member);
        }
        for (int motion = 0; motion < x.motionCount(); motion++) {
            facts.ofMotion(x, motion);
        }
        for (int chair = 0; chair < x.chairCount(); chair++) {
            facts.ofChair(x, chair);
        }
        return facts;
    }

    private void put(String name, long value) {
        told.put(name, Long.toString(value));
    }

    private void ofTexts(BarberParliament x) {
        put("text", Bound.length(x));
        put("findMember", x.findMember());
        put("errorCode", x.errorCode());
        put("errorPosition", x.errorPosition());
        told.put("output", Check.output(x));
    }

    private void ofTheChamber(BarberParliament x) {
        put("memberCount", x.memberCount());
        put("motionCount", x.motionCount());
        put("chairCount", x.chairCount());
        put("minute", x.minute());
        put("freeMirrors", x.freeMirrors());
        put("ranking", x.ranking());
        put("requestCount", x.requestCount());
        put("tips", x.tips());
        put("voteCount", x.voteCount());
        put("rebuttalCount", x.rebuttalCount());
        put("contradictions", x.contradictions());
        put("undoCount", x.undoCount());
    }

    private void ofMember(BarberParliament x, int member) {
        put("weight " + member, x.weight(member));
        put("purse " + member, x.purse(member));
        put("sharpness " + member, x.sharpness(member));
        put("speechesOf " + member, x.speechesOf(member));
        put("chairOf " + member, x.chairOf(member));
        put("placeInList " + member, x.placeInList(member));
        for (int motion = 0; motion < x.motionCount(); motion++) {
            put("leaning " + member + " to " + motion, x.leaning(member, motion));
        }
    }

    private void ofMotion(BarberParliament x, int motion) {
        put("proposer " + motion, x.proposer(motion));
        put("motionState " + motion, x.motionState(motion));
        put("lather " + motion, x.lather(motion));
    }

    private void ofChair(BarberParliament x, int chair) {
        put("speaker " + chair, x.speaker(chair));
        put("remainingTime " + chair, x.remainingTime(chair));
        put("isRebutted " + chair, x.isRebutted(chair) ? 1 : 0);
        if (x.speaker(chair) != BarberParliament.NONE) {
            put("speechMotion " + chair, x.speechMotion(chair));
        }
    }

    /** Each fact that has become another one, as "name before>now"; what was not there before, or is no longer, is "none". */
    String since(Facts before) {
        StringBuilder text = new StringBuilder();
        Map<String, String> all = new LinkedHashMap<>(before.told);
        all.putAll(told);
        for (String name : all.keySet()) {
            String then = before.told.getOrDefault(name, "none");
            String now = told.getOrDefault(name, "none");
            if (!then.equals(now)) {
                text.append(text.length() == 0 ? "" : ", ").append(name).append(' ').append(then).append('>').append(now);
            }
        }
        return text.toString();
    }
}
