import java.nio.file.Files;
import java.nio.file.Path;
import java.util.ArrayList;
import java.util.List;
import java.util.Set;
import java.util.TreeSet;
import java.util.regex.Matcher;
import java.util.regex.Pattern;

/** Those rules of LANGUAGE.md that can be seen in the text of the class. */
public final class LanguageTest {
    private static final Path SOURCE = Path.of("src/main/java/WallVotes.java");
    private static final Set<String> LIBRARY = Set.of("System.arraycopy", "Arrays.fill", "Math.max",
            "Math.min", "Math.abs", "Integer.bitCount");

    private LanguageTest() {
    }

    public static void main(String[] args) throws Exception {
        String text = Files.readString(SOURCE);
        String code = text.replaceAll("(?s)/\\*.*?\\*/", "").replaceAll("//[^\n]*", "");
        require(text.chars().allMatch(c -> c == '\n' || c >= 32 && c < 127), "plain signs alone");
        words(code);
        library(code);
        methods(code);
        Script.finish();
    }

    private static void require(boolean holds, String what) {
        Script.due("LANGUAGE.md", what, holds ? 1 : 0, 1);
    }

    private static void words(String code) {
        for (String word : List.of("throw", "throws", "try", "catch", "synchronized", "assert", "package",
                "protected", "volatile", "native", "double", "float", "Exact", "toString", "hashCode")) {
            require(!Pattern.compile("\\b" + word + "\\b").matcher(code).find(), "no " + word);
        }
        require(!code.contains("->") && !code.contains("::"), "no lambda, no method reference");
        List<String> imports = code.lines().filter(line -> line.startsWith("import")).toList();
        require(imports.equals(List.of("import java.util.Arrays;")), "imports: " + imports);
        Matcher fields = Pattern.compile("\\bstatic (?!final)(?!class)[^(\n]*[;=]").matcher(code);
        require(!fields.find(), "static fields are final");
        Matcher classes = Pattern.compile("\\bclass [A-Z]").matcher(code);
        require(classes.results().count() <= 12, "at most twelve classes");
        require(!Pattern.compile("(?<!static )(?<!static final )(?<!public final )\\bclass [A-Z]")
                .matcher(code).find(), "classes inside are static");
    }

    private static void library(String code) {
        Set<String> used = new TreeSet<>();
        Matcher calls = Pattern.compile("\\b(System|Arrays|Math|Integer|Long)\\.(\\w+)").matcher(code);
        while (calls.find()) {
            used.add(calls.group());
        }
        require(LIBRARY.containsAll(used), "the library: " + used);
    }

    private static void methods(String code) {
        Pattern head = Pattern.compile("^ +(?:(?:public|private|static|final) )*[\\w\\[\\]]+ (\\w+)"
                + "\\(([^)]*)\\) \\{$");
        Set<String> open = new TreeSet<>();
        List<String> hidden = new ArrayList<>();
        String[] lines = code.split("\n");
        for (int i = 0; i < lines.length; i++) {
            Matcher m = head.matcher(lines[i]);
            if (!m.matches() || lines[i].contains(" else ") || lines[i].contains(" new ")) {
                continue;
            }
            (lines[i].contains("public ") ? open : hidden).add(m.group(1));
            require(m.group(2).split(",").length <= 7, "seven parameters: " + m.group(1));
            String end = lines[i].substring(0, lines[i].indexOf(lines[i].strip())) + "}";
            int length = 1;
            while (i + length < lines.length && !lines[i + length].equals(end)) {
                length++;
            }
            require(length <= 60, "sixty lines: " + m.group(1) + " has " + length);
        }
        require(open.size() == 54, "public methods and the constructor: " + open.size());
        for (String name : hidden) {
            require(!open.contains(name), "a method inside bears a public one's name: " + name);
        }
    }
}
