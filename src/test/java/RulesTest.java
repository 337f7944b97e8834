import java.io.IOException;
import java.nio.file.Files;
import java.nio.file.Path;
import java.util.ArrayList;
import java.util.List;
import java.util.Set;
import java.util.regex.Matcher;
import java.util.regex.Pattern;

/** The rules of LANGUAGE.md that can be read from the words of the source. */
final class RulesTest {
    private static final Set<String> LIBRARY = Set.of("Math.max", "Math.min", "Math.floorMod", "Integer.compare",
        "System.arraycopy");
    // Another divisor belongs here once the lines that look at it have been read.
    private static final Set<String> DIVISORS = Set.of("2", "100", "1000", "2000", "FLOAT_STEPS", "use", "common", "b");
    private static final int MOST_LINES = 60;
    private static final int MOST_PARAMETERS = 7;
    private static final int MOST_CLASSES = 12;
    private static final int MOST_FIELDS = 20;

    public static void main(String[] args) throws IOException {
        Path file = Path.of(System.getProperty("root", "."), "src/main/java/TripReckoner.java");
        String source = withoutComments(Files.readString(file));
        String code = source.replaceAll("\"[^\"]*\"", "\"\"");
        oneFile(code);
        words(code);
        library(code);
        divisors(code);
        exceptions(source);
        members(code);
        methods(code);
        Check.finish();
    }

    private static String withoutComments(String text) {
        return text.replaceAll("(?s)/\\*.*?\\*/", "").replaceAll("//[^\n]*", "");
    }

    private static void oneFile(String code) {
        Check.sentence("LANGUAGE: one file without a package line, one public class");
        none(code, "(?m)^package ");
        Check.due("public classes", found(code, "public [a-z ]*class \\w+").toString(),
            "[public final class TripReckoner]");
        Check.due("imports", found(code, "import [\\w.*]+").toString(), "[import java.util.NoSuchElementException]");
        Check.due("some twelve classes", found(code, "\\b(class|record|enum|interface) \\w+").size() <= MOST_CLASSES, true);
    }

    private static void words(String code) {
        Check.sentence("LANGUAGE 2, 5, 6, 9: words that are not used here");
        String[] never = {"->", "::", "\\bfinally\\b", "\\bsynchronized\\b", "\\bassert\\b", "\\bcatch\\b", "\\btry\\b",
            "\\bwhile\\b", "\\bprotected\\b", "\\bdouble\\b", "\\bfloat\\b", "static \\{", "Exact\\(", "\\bvar\\b",
            "\\bnull\\b", "\\bhashCode\\b", "\\bequals\\b", "\\btoString\\b"};
        for (String word : never) {
            none(code, word);
        }
    }

    private static void library(String code) {
        Check.sentence("LANGUAGE 4: the library: only what stands here");
        for (String call : found(code, "\\b[A-Z][a-z]\\w*\\.[a-z]\\w*")) {
            Check.due(call + " is listed", LIBRARY.contains(call), true);
        }
    }

    private static void divisors(String code) {
        Check.sentence("LANGUAGE 7: a divisor is looked at before it divides");
        for (String divided : found(code, "[/%]=?\\s*[\\w(]+")) {
            String divisor = divided.replaceAll("[/%=\\s]", "");
            Check.due(divided + " was looked at", DIVISORS.contains(divisor), true);
        }
    }

    private static void exceptions(String source) {
        Check.sentence("LANGUAGE 6: throw new E(\"a written text\"), the one that the document names");
        int thrown = found(source, "\\bthrow\\b").size();
        Check.due("all throws", found(source, "throw new NoSuchElementException\\(\"[^\"]+\"\\);").size(), thrown);
    }

    private static void members(String code) {
        Check.sentence("LANGUAGE 1, 5: members are private, static ones final or methods");
        for (String line : code.split("\n")) {
            if (line.matches(" {4,8}(static|final|int|long|boolean) .*")) {
                boolean local = line.startsWith("        ") && !line.contains("static");
                Check.due(line.strip() + " is local", local, true);
            }
            if (line.matches(" +private static (?!final).*")) {
                Check.due(line.strip() + " is a method", line.endsWith("{"), true);
            }
        }
        Check.sentence("LANGUAGE 11: some twenty fields a class beside its constants");
        for (String body : code.split("\\bclass ")) {
            int fields = found(body, "(?m)^ +private (?!static)[\\w \\[\\]]+( =[^;]*)?;").size();
            Check.due("fields of " + body.split(" ")[0], fields <= MOST_FIELDS, true);
        }
    }

    private static void methods(String code) {
        Check.sentence("LANGUAGE 11: short methods with at most seven parameters");
        List<String> publicNames = new ArrayList<>();
        Matcher head = Pattern.compile("(?m)^( +)(public|private) ([\\w\\[\\] ]*?)(\\w+)\\(([^)]*)\\)[^;{]*\\{").matcher(code);
        List<String> privateNames = new ArrayList<>();
        while (head.find()) {
            String end = "\n" + head.group(1) + "}";
            int lines = code.substring(head.start(), code.indexOf(end, head.end())).split("\n").length + 1;
            Check.due(head.group(4) + " is short", lines <= MOST_LINES, true);
            Check.due(head.group(4) + " has few parameters", head.group(5).split(",").length <= MOST_PARAMETERS, true);
            (head.group(2).equals("public") ? publicNames : privateNames).add(head.group(4));
        }
        Check.due("the constructor and the methods of the face", publicNames.size(), 21);
        Check.sentence("LANGUAGE 1: no private method bears the name of a public one, in no class");
        for (String name : privateNames) {
            Check.due(name + " bears a public name", publicNames.contains(name), false);
        }
    }

    private static void none(String code, String pattern) {
        Check.due(pattern, found(code, pattern).toString(), "[]");
    }

    private static List<String> found(String code, String pattern) {
        List<String> all = new ArrayList<>();
        Matcher matcher = Pattern.compile(pattern).matcher(code);
        while (matcher.find()) {
            all.add(matcher.group());
        }
        return all;
    }
}
