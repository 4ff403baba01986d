import java.io.IOException;
import java.lang.reflect.Constructor;
import java.lang.reflect.Field;
import java.lang.reflect.Member;
import java.lang.reflect.Method;
import java.lang.reflect.Modifier;
import java.nio.file.Files;
import java.nio.file.Path;
import java.util.Arrays;
import java.util.Set;
import java.util.TreeSet;

/** The face is as the document has it, and the source keeps to those rules of ../shared/LANGUAGE.md that words show. */
public final class FaceTest {
    private static final String[] FACE = {"int set(int,int)", "long told(int)", "int odds(int,int,int)",
        "int rival(int,int,int)", "int theirs(int,int,int)", "int lay(int,int,int)", "int at(int,int)",
        "int street(int)", "int copy(int,int)", "int chance(int,int)", "long value(int,int)", "int best(int,int,int)",
        "int rule(int,int,int)", "int adopt(int)", "long worth(int,int,int)", "int ruled(int,int)",
        "int reserve(int,int,int)", "long meeting(int,int)", "long middle(int)", "int quote(int,int)", "int trade(int)",
        "int feed(int)", "int read()", "int ticket(int)", "int see(int,int,int)", "int fits(int)",
        "int event(int,int)", "long after()", "long taken(int,int,int)", "int judge(int,int,int)", "int image()",
        "int undo()", "int count(int)", "int tape(int,int,int)", "int item(int,int,long)", "long peek(int,int)",
        "int shift(int,int,int,int,int)"};
    private static final String[] RULED_OUT = {"->", "::", "Double", "Float", "Exact(", "synchronized", "assert ",
        "static {", "hashCode", "equals(Object", "toString(", "package ", "HashMap", "Random", "System.out", "nanoTime",
        "currentTime", "try ", "catch ", "finally", "throw ", "java.lang", "record ", "var ", "+ \"", "\" +"};

    /** What the interface says, and the first and the last call that it says so of. */
    private static final String[][] HEADINGS = {{"the market", "set", "chance"}, {"the best rule, a told one", "value",
        "ruled"}, {"floats, doubles", "reserve", "middle"}, {"in truth", "quote", "ticket"}, {"seen, events", "see", "taken"},
        {"judging, the image, tapes", "judge", "shift"}};

    private static final Due DUE = new Due("FaceTest");

    public static void main(String[] args) throws IOException {
        face();
        constants();
        inside();
        String source = Files.readString(Path.of("src/main/java/QuoteMind.java"));
        source(source);
        headings(source);
        DUE.end();
    }

    private static boolean isSeen(Member member) {
        return !member.isSynthetic() && !Modifier.isPrivate(member.getModifiers());
    }

    private static void face() {
        DUE.is("the class is public and final", QuoteMind.class.getModifiers(), Modifier.PUBLIC | Modifier.FINAL);
        Set<String> want = new TreeSet<>(Arrays.asList(FACE));
        Set<String> names = new TreeSet<>();
        for (String method : FACE) {
            names.add(method.substring(method.indexOf(' ') + 1, method.indexOf('(')));
        }
        Set<String> got = new TreeSet<>();
        for (Method method : QuoteMind.class.getDeclaredMethods()) {
            if (isSeen(method)) {
                DUE.is("modifiers of " + method.getName(), method.getModifiers(), Modifier.PUBLIC);
                got.add(method.toString().replace("public ", "").replace("QuoteMind.", ""));
            } else {
                DUE.holds("no private " + method.getName(), !names.contains(method.getName()));
            }
        }
        DUE.holds("the methods " + got + " are " + want, got.equals(want));
        Constructor<?>[] made = QuoteMind.class.getDeclaredConstructors();
        DUE.is("one constructor", made.length, 1);
        DUE.is("it is public", made[0].getModifiers(), Modifier.PUBLIC);
        DUE.is("it takes nothing", made[0].getParameterCount(), 0);
    }

    private static void constants() {
        int seen = 0;
        for (Field field : QuoteMind.class.getDeclaredFields()) {
            if (isSeen(field)) {
                seen++;
                DUE.is(field.getName(), field.getModifiers(), Modifier.PUBLIC | Modifier.STATIC | Modifier.FINAL);
            }
        }
        DUE.is("constants", seen, 6);
        DUE.is("NONE", QuoteMind.NONE, -1);
        DUE.is("BAD", QuoteMind.BAD, -2);
        DUE.is("STATE", QuoteMind.STATE, -3);
        DUE.is("FULL", QuoteMind.FULL, -4);
        DUE.is("OVER", QuoteMind.OVER, -15);
        DUE.is("NO", QuoteMind.NO, Long.MIN_VALUE);
    }

    private static void inside() {
        Class<?>[] classes = QuoteMind.class.getDeclaredClasses();
        DUE.holds("twelve classes at most", classes.length <= 11);
        for (Class<?> one : classes) {
            int modifiers = one.getModifiers();
            DUE.holds(one + " is static", Modifier.isStatic(modifiers));
            DUE.holds(one + " is not seen", !Modifier.isPublic(modifiers) && !Modifier.isProtected(modifiers));
            int fields = 0;
            for (Field field : one.getDeclaredFields()) {
                if (Modifier.isStatic(field.getModifiers())) {
                    DUE.holds(field + " is final", Modifier.isFinal(field.getModifiers()));
                } else {
                    fields++;
                }
            }
            DUE.holds(one + " has twenty fields at most", fields <= 20);
            for (Method method : one.getDeclaredMethods()) {
                DUE.holds(method + " takes seven at most", method.getParameterCount() <= 7);
            }
        }
    }

    private static void source(String source) {
        for (String word : RULED_OUT) {
            DUE.holds("the source has no " + word, !source.contains(word));
        }
        for (int i = 0; i < source.length(); i++) {
            if (source.charAt(i) > 126) {
                DUE.is("sign at " + i, source.charAt(i), 126);
            }
        }
    }

    private static int placeOf(String source, String call) {
        return Math.max(source.indexOf("    public int " + call + "("), source.indexOf("    public long " + call + "("));
    }

    private static void headings(String source) {
        int behind = 0;
        for (String[] heading : HEADINGS) {
            int at = source.indexOf("// ---- " + heading[0] + "\n");
            int first = placeOf(source, heading[1]);
            int last = placeOf(source, heading[2]);
            DUE.holds(heading[0] + " stands ahead of its calls alone", behind < at && at < first && first < last);
            behind = last;
        }
    }
}
