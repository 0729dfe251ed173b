import java.io.IOException;
import java.lang.reflect.Constructor;
import java.lang.reflect.Field;
import java.lang.reflect.Method;
import java.lang.reflect.Modifier;
import java.nio.file.Files;
import java.nio.file.Path;
import java.util.Arrays;
import java.util.List;
import java.util.TreeSet;
import java.util.regex.Pattern;

/** The public face is the document's and nothing else, and the source keeps to plain rules. */
public final class FaceTest {

    private static final List<String> METHODS = List.of(
            "int add(int, int)", "int set(int, int, int)", "int setRoot(int, int)",
            "int setValue(int, int)", "int point(int, int)", "int points()", "int setState(int)",
            "int setFlood(int, int, int)", "int tick(int)", "int plant(int)", "int ack(int)",
            "int ackAll()", "int shelve(int, int)", "int unshelve(int)", "int list(int)",
            "int count(int)", "int events()", "int event(int, int)", "float meanAck()",
            "int worst()", "int replay(int, int)", "int leastDeadband(int, int)",
            "int type(int)", "int clear()", "int run()", "int undo()", "long fingerprint()");

    /** What ../shared/LANGUAGE.md rules out, as far as a pattern can tell. */
    private static final List<String> NOT_IN_SOURCE = List.of(
            "\\bpackage\\b", "\\bfinally\\b", "\\bsynchronized\\b", "\\bassert\\b",
            "::", "Exact\\(", "\\bSystem\\.(?!arraycopy)", "\\bThread\\b", "\\bRandom\\b",
            "\\bjava\\.(?!util)", "\\bgetMessage\\b", "\\bhashCode\\b", "\\bMath\\.random\\b");

    public static void main(String[] args) throws IOException {
        Check.about("The public face");
        constants();
        methods();
        members();
        source();
        Check.end();
    }

    private static void constants() {
        Check.due("BAD", AlarmDesk.BAD, -20001);
        Check.due("STATE", AlarmDesk.STATE, -20002);
        Check.due("FULL", AlarmDesk.FULL, -20003);
        Check.due("NONE", AlarmDesk.NONE, -20009);
    }

    private static String signature(Method method) {
        StringBuilder parameters = new StringBuilder();
        for (Class<?> type : method.getParameterTypes()) {
            parameters.append(parameters.length() == 0 ? "" : ", ").append(type);
        }
        return method.getReturnType() + " " + method.getName() + "(" + parameters + ")";
    }

    private static void methods() {
        TreeSet<String> open = new TreeSet<>();
        TreeSet<String> names = new TreeSet<>();
        for (String due : METHODS) {
            names.add(due.substring(due.indexOf(' ') + 1, due.indexOf('(')));
        }
        for (Method method : AlarmDesk.class.getDeclaredMethods()) {
            if (Modifier.isPublic(method.getModifiers())) {
                open.add(signature(method));
            } else {
                Check.due("private, with a name of its own: " + method.getName(),
                        ownAndPrivate(method, names), 1);
            }
        }
        Check.due("public methods " + open, open.equals(new TreeSet<>(METHODS)) ? 1 : 0, 1);
        for (Class<?> inner : AlarmDesk.class.getDeclaredClasses()) {
            for (Method method : inner.getDeclaredMethods()) {
                boolean closed = Modifier.isPrivate(method.getModifiers());
                Check.due("a name of its own inside: " + method.getName(),
                        closed && names.contains(method.getName()) ? 1 : 0, 0);
            }
        }
    }

    private static int ownAndPrivate(Method method, TreeSet<String> names) {
        boolean own = !names.contains(method.getName());
        return own && (method.isSynthetic() || Modifier.isPrivate(method.getModifiers())) ? 1 : 0;
    }

    private static void members() {
        Check.due("final", Modifier.isFinal(AlarmDesk.class.getModifiers()) ? 1 : 0, 1);
        Constructor<?>[] made = AlarmDesk.class.getDeclaredConstructors();
        Check.due("constructors", made.length, 1);
        Check.due("its parameters", made[0].getParameterCount(), 0);
        TreeSet<String> open = new TreeSet<>();
        for (Field field : AlarmDesk.class.getDeclaredFields()) {
            if (Modifier.isPublic(field.getModifiers())) {
                open.add(field.getName());
            } else {
                Check.due("private: " + field.getName(),
                        Modifier.isPrivate(field.getModifiers()) ? 1 : 0, 1);
            }
        }
        List<String> due = Arrays.asList("BAD", "FULL", "NONE", "STATE");
        Check.due("public fields " + open, open.equals(new TreeSet<>(due)) ? 1 : 0, 1);
    }

    private static void source() throws IOException {
        String source = Files.readString(Path.of("src/main/java/AlarmDesk.java"));
        String code = source.replaceAll("(?s)/\\*.*?\\*/", "").replaceAll("//.*", "");
        for (String ruledOut : NOT_IN_SOURCE) {
            boolean found = Pattern.compile(ruledOut).matcher(code).find();
            Check.due("'" + ruledOut + "' in the source", found ? 1 : 0, 0);
        }
    }
}
