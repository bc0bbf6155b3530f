import java.io.IOException;
import java.lang.reflect.Constructor;
import java.lang.reflect.Field;
import java.lang.reflect.Method;
import java.lang.reflect.Modifier;
import java.nio.file.Path;
import java.util.ArrayList;
import java.util.List;
import java.util.Set;
import java.util.TreeSet;
import java.util.regex.Matcher;
import java.util.regex.Pattern;

/** The public face of the document, and nothing else; and what rules of the language can be seen in classes. */
public final class FaceTest {
    private static final String INDEX = " throws IndexOutOfBoundsException";
    private static final String ARGUMENT = " throws IllegalArgumentException";
    private static final String STATE = " throws IllegalStateException";
    private static final String[] FACE = {
        "int put(int, int, int)" + INDEX + " IllegalArgumentException IllegalStateException",
        "int cut(int, int)" + INDEX,
        "int rename(int, int)" + INDEX + " IllegalStateException",
        "int remove(int)" + INDEX,
        "int status(int)" + INDEX,
        "int commit(int)" + ARGUMENT + " IllegalStateException",
        "int branch()" + STATE,
        "int change(int)" + INDEX + " IllegalStateException",
        "int reset(int)" + INDEX,
        "int merge(int)" + INDEX + " IllegalStateException",
        "int settle(int)" + INDEX,
        "int collect()",
        "int many(int)" + ARGUMENT,
        "int now(int)" + ARGUMENT,
        "int at(int)" + INDEX,
        "int ofCommit(int, int)" + INDEX + " IllegalArgumentException",
        "int line(int, int, int)" + INDEX,
        "int size(int, int)" + INDEX,
        "int conflict(int, int)" + INDEX + " IllegalArgumentException",
        "int base(int, int)" + INDEX,
        "int went(int, int, int)" + INDEX,
        "int changes(int, int, int)" + INDEX + " IllegalArgumentException",
        "int nearness(int, int, int, int)" + INDEX,
        "int origin(int, int, int)" + INDEX,
        "int conflictsOf(int, int)" + INDEX,
        "int garbage()",
        "double meanLines()",
        "long digest()"};

    /** The calls in the document's order, each behind the words that the interface says ahead of them. */
    private static final String[] IN_ORDER = {
        "// ---- the working tree", "put", "cut", "rename", "remove", "status",
        "// ---- commits and branches", "commit", "branch", "change", "reset", "merge", "settle", "collect",
        "// ---- asking", "many", "now", "at", "ofCommit", "line", "size", "conflict", "base",
        "// ---- what became otherwise", "went", "changes", "nearness", "origin",
        "// ---- what would be (nothing is changed)", "conflictsOf", "garbage", "meanLines", "digest"};

    private static final Check CHECK = new Check("FaceTest");

    public static void main(String[] args) throws IOException {
        compareFace();
        compareOrder(java.nio.file.Files.readString(Path.of("src/main/java/Branchwork.java")));
        for (Class<?> inside : Branchwork.class.getDeclaredClasses()) {
            lookInside(inside);
        }
        sizes(Branchwork.class);
        CHECK.holds("at most twelve classes", Branchwork.class.getDeclaredClasses().length < 12);
        CHECK.end();
    }

    private static void compareFace() {
        Set<String> want = new TreeSet<>(List.of(FACE));
        Set<String> got = new TreeSet<>();
        for (Method method : Branchwork.class.getDeclaredMethods()) {
            if (!Modifier.isPrivate(method.getModifiers())) {
                got.add(signature(method));
                CHECK.holds(method + " is public", Modifier.isPublic(method.getModifiers()));
                CHECK.holds(method + " is of an object", !Modifier.isStatic(method.getModifiers()));
            }
        }
        CHECK.compare("the methods", String.join("\n", want), String.join("\n", got));
        Constructor<?>[] constructors = Branchwork.class.getDeclaredConstructors();
        CHECK.holds("one constructor", constructors.length == 1);
        CHECK.holds("it is public, without parameters",
                Modifier.isPublic(constructors[0].getModifiers()) && constructors[0].getParameterCount() == 0);
        CHECK.holds("the class is public and final", Modifier.isPublic(Branchwork.class.getModifiers())
                && Modifier.isFinal(Branchwork.class.getModifiers()));
        for (Field field : Branchwork.class.getDeclaredFields()) {
            CHECK.holds(field + " is private", Modifier.isPrivate(field.getModifiers()));
        }
    }

    private static void compareOrder(String source) {
        List<String> got = new ArrayList<>();
        Matcher met = Pattern.compile("^    (// ---- .*|public (?:int|long|double) (\\w+)\\(.*)$", Pattern.MULTILINE)
                .matcher(source);
        while (met.find()) {
            got.add(met.group(2) == null ? met.group(1) : met.group(2));
        }
        CHECK.compare("the calls in their order", String.join("\n", IN_ORDER), String.join("\n", got));
    }

    private static String signature(Method method) {
        List<String> types = new ArrayList<>();
        for (Class<?> type : method.getParameterTypes()) {
            types.add(type.getSimpleName());
        }
        StringBuilder all = new StringBuilder();
        all.append(method.getReturnType()).append(" ").append(method.getName());
        all.append("(").append(String.join(", ", types)).append(")");
        for (Class<?> thrown : method.getExceptionTypes()) {
            all.append(all.indexOf(" throws ") < 0 ? " throws " : " ").append(thrown.getSimpleName());
        }
        return all.toString();
    }

    private static void lookInside(Class<?> inside) {
        int modifiers = inside.getModifiers();
        CHECK.holds(inside + " is static", Modifier.isStatic(modifiers));
        CHECK.holds(inside + " is not public", !Modifier.isPublic(modifiers) && !Modifier.isProtected(modifiers));
        sizes(inside);
    }

    private static void sizes(Class<?> of) {
        Set<String> face = new TreeSet<>();
        for (Method method : Branchwork.class.getMethods()) {
            face.add(method.getName());
        }
        for (Method method : of.getDeclaredMethods()) {
            CHECK.holds(method + " has at most seven parameters", method.getParameterCount() <= 7);
            CHECK.holds(method + " does not bear a public one's name",
                    Modifier.isPublic(method.getModifiers()) || !face.contains(method.getName()));
        }
        int fields = 0;
        for (Field field : of.getDeclaredFields()) {
            if (Modifier.isStatic(field.getModifiers())) {
                CHECK.holds(field + " is final", Modifier.isFinal(field.getModifiers()));
                CHECK.holds(field + " is a number", field.getType().isPrimitive());
            } else {
                fields++;
            }
        }
        CHECK.holds(of + " has at most twenty fields", fields <= 20);
    }
}
