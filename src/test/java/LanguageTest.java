import java.io.IOException;
import java.nio.file.Path;
import java.util.List;
import java.util.Set;
import java.util.regex.Matcher;
import java.util.regex.Pattern;

/** What can be told of the language's rules by looking at the source; run from the root of the project. */
public final class LanguageTest {
    private static final List<String> NOT_USED = List.of("->", "::", "\\bcatch\\b", "\\btry\\b", "\\bfinally\\b",
            "\\bsynchronized\\b", "\\bassert\\b", "\\binstanceof\\b", "\\bString\\b", "\\bSystem\\b", "\\bObject\\b",
            "\\bvar\\b", "\\bequals\\b", "\\bhashCode\\b", "\\btoString\\b", "static \\{", "\\bpackage\\b",
            "\\bboolean\\b[^;]*Arrays\\.", "\\bprotected\\b", "@");
    private static final Set<String> THROWN = Set.of("IndexOutOfBoundsException", "IllegalArgumentException",
            "IllegalStateException");
    private static final Set<String> LIBRARY = Set.of("Arrays.fill", "Math.max", "Math.min", "Integer.bitCount");

    private static final Check CHECK = new Check("LanguageTest");

    public static void main(String[] args) throws IOException {
        String source = java.nio.file.Files.readString(Path.of("src/main/java/Branchwork.java"));
        String uncommented = source.replaceAll("/\\*(?s:.*?)\\*/", "").replaceAll("//.*", "");
        String code = uncommented.replaceAll("\"[^\"\n]*\"", "\"\"");
        for (String pattern : NOT_USED) {
            Matcher found = Pattern.compile(pattern).matcher(code);
            CHECK.holds("no " + pattern, !found.find());
        }
        CHECK.holds("only signs up to 126", source.chars().allMatch(sign -> sign == '\n' || sign >= ' ' && sign < 127));
        allAre(code, "import ([\\w.]+)", Set.of("java.util.Arrays"));
        allAre(code, "throw new (\\w+)", THROWN);
        allAre(code, "\\b((?:Arrays|Math|Integer|Long|List)\\.\\w+)(?=\\()", LIBRARY);
        allAre(code, "Arrays\\.fill\\((\\w+),", Set.of("tips", "common", "partnersInA", "partnersInB", "fates",
                "sources", "metContents"));
        methodsAreShort(source);
        CHECK.end();
    }

    private static void allAre(String code, String pattern, Set<String> allowed) {
        Matcher found = Pattern.compile(pattern).matcher(code);
        while (found.find()) {
            CHECK.holds(found.group(1) + " is allowed", allowed.contains(found.group(1)));
        }
    }

    private static void methodsAreShort(String source) {
        int began = -1;
        int met = 0;
        String indent = "";
        String[] lines = source.split("\n");
        for (int i = 0; i < lines.length; i++) {
            boolean header = lines[i].matches("( {4}| {8}| {12})[a-zA-Z].*\\{") && !lines[i].contains(" class ")
                    && !lines[i].matches(" *(for|if|while|switch|\\}).*");
            if (began < 0 && header) {
                began = i;
                indent = lines[i].replaceAll("\\S.*", "");
                met++;
            } else if (began >= 0 && (lines[i].equals(indent + "}") || lines[i].equals(indent.substring(4) + "}"))) {
                CHECK.holds("line " + (began + 1) + ": a method of at most sixty lines", i - began < 60);
                began = -1;
            }
        }
        CHECK.holds("methods were met", met > 100);
    }
}
