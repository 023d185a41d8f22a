import java.lang.reflect.Constructor;
import java.lang.reflect.Field;
import java.lang.reflect.Method;
import java.lang.reflect.Modifier;
import java.util.Arrays;
import java.util.TreeSet;

/** The public face: these members and no others. */
public final class FaceTest {
    private static final String[] CONSTANTS = {
        "NONE=-1", "SYNTAX=1", "OUT_OF_RANGE=2", "WRONG_NAME=3", "TOO_MANY=4",
        "OPEN=0", "PASSED=1", "REJECTED=2", "WITHDRAWN=3",
        "ARRIVAL=0", "HEAVIEST=1", "QUIETEST=2", "CONTRAST=3",
        "MAY_VOTE=0", "DECIDED=1", "TOO_DRY=2", "SPEECH_RUNNING=3", "NO_QUORUM=4"
    };

    private static final String[] METHODS = {
        "int append(int,int,int,int,int)S", "int truncate(int)A", "int load()", "int runScript()",
        "int errorCode()", "int errorPosition()",
        "int memberCount()", "int findMember()", "int weight(int)I", "int purse(int)I", "int sharpness(int)I",
        "int speechesOf(int)I", "int leaning(int,int)I", "int chairOf(int)I", "int placeInList(int)I",
        "int motionCount()", "int proposer(int)I", "int motionState(int)I", "int lather(int)I",
        "int weightFor(int)I", "int weightAgainst(int)I", "int voterCount(int)I", "int obstacle(int)I",
        "boolean wouldPass(int)I", "int decisiveVoter(int)I",
        "int chairCount()", "int minute()", "int freeMirrors()", "int ranking()", "int requestCount()",
        "int speaker(int)I", "int speechMotion(int)IE", "int remainingTime(int)I", "boolean isRebutted(int)I",
        "int firstBy(int)I",
        "int tips()", "int voteCount()", "int rebuttalCount()", "double meanLeaning(int)I",
        "float weightShare(int)I", "int contradictions()",
        "int minutesUntilSpeech(int)I", "int latherAfter(int,int)IA", "int minutesUntilVote(int)I",
        "int propose(int,int)IAS", "int request(int,int,boolean)IS", "int rebut(int,int)IS", "int advance(int)AS",
        "boolean vote(int)IS", "int withdraw(int)IS", "int sharpen(int)IS", "int setRanking(int)I",
        "int writeChairs()", "int writeRequests()", "int outputByte(int)", "int undoCount()", "int undo()S",
        "int save(int)I", "int restore(int)IE"
    };

    public static void main(String[] args) throws IllegalAccessException {
        Class<?> face = BarberParliament.class;
        Check.yes("the class is public and final",
            Modifier.isPublic(face.getModifiers()) && Modifier.isFinal(face.getModifiers()));
        Check.due("the constants", constants(face).toString(), new TreeSet<>(Arrays.asList(CONSTANTS)).toString());
        Check.due("the methods", methods(face).toString(), new TreeSet<>(Arrays.asList(METHODS)).toString());
        Constructor<?>[] made = face.getDeclaredConstructors();
        Check.due("the number of constructors", made.length, 1);
        Check.yes("the constructor is public", Modifier.isPublic(made[0].getModifiers()));
        Check.due("the parameters of the constructor", made[0].getParameterCount(), 0);
        Check.end();
    }

    private static TreeSet<String> constants(Class<?> face) throws IllegalAccessException {
        TreeSet<String> found = new TreeSet<>();
        for (Field field : face.getDeclaredFields()) {
            int marks = field.getModifiers();
            if (!Modifier.isPrivate(marks) && !field.isSynthetic()) {
                boolean isConstant = Modifier.isPublic(marks) && Modifier.isStatic(marks) && Modifier.isFinal(marks);
                found.add(isConstant ? field.getName() + "=" + field.getInt(null) : "not a constant: " + field);
            }
        }
        return found;
    }

    private static TreeSet<String> methods(Class<?> face) {
        TreeSet<String> found = new TreeSet<>();
        for (Method method : face.getDeclaredMethods()) {
            if (!Modifier.isPrivate(method.getModifiers()) && !method.isSynthetic()) {
                found.add(described(method));
            }
        }
        return found;
    }

    private static String described(Method method) {
        StringBuilder text = new StringBuilder();
        text.append(Modifier.isPublic(method.getModifiers()) ? "" : "not public: ");
        text.append(Modifier.isStatic(method.getModifiers()) ? "static: " : "");
        text.append(method.getReturnType()).append(' ').append(method.getName()).append('(');
        for (Class<?> parameter : method.getParameterTypes()) {
            text.append(text.charAt(text.length() - 1) == '(' ? "" : ",").append(parameter);
        }
        text.append(')');
        for (Class<?> thrown : method.getExceptionTypes()) {
            text.append(letterOf(thrown));
        }
        return text.toString();
    }

    private static String letterOf(Class<?> thrown) {
        switch (thrown.getSimpleName()) {
            case "IndexOutOfBoundsException": return "I";
            case "IllegalArgumentException": return "A";
            case "IllegalStateException": return "S";
            case "NoSuchElementException": return "E";
            default: return thrown.getName();
        }
    }
}
