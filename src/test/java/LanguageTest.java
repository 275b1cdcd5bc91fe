import java.io.IOException;
import java.nio.file.Files;
import java.nio.file.Path;
import java.util.ArrayList;
import java.util.List;
import java.util.Set;
import java.util.TreeSet;
import java.util.regex.Matcher;
import java.util.regex.Pattern;

/** Rules of ../shared/LANGUAGE.md that can be seen in the lines of the class; the others are for a reader. */
public final class LanguageTest {
    private static final Pattern HEAD = Pattern.compile("^(    |        )(?:[a-z]+ )*[a-zA-Z\\[\\]]+ ([a-z]\\w*)\\((.*)$");
    private static final Set<String> IMPORTS = Set.of("import java.util.Arrays;", "import java.util.NoSuchElementException;");
    private static final String[] BANNED = {"->", "::", "Exact(", "synchronized", "finally", "assert ", "try ", "catch ",
        "System.out", "System.nano", "System.current", "getMessage", "instanceof", "Object", "protected ", "static {",
        "hashCode", "toString", "equals(", "NaN", "double", "float", "Random", "Thread", "package "};

    public static void main(String[] args) throws IOException {
        List<String> lines = Files.readAllLines(Path.of(args.length > 0 ? args[0] : "src/main/java/DebtMiller.java"));
        Set<String> open = new TreeSet<>();
        List<String> others = new ArrayList<>();
        int classes = 0;
        for (int i = 0; i < lines.size(); i++) {
            String line = lines.get(i);
            String code = line.replaceAll("^\\s*(/\\*\\*|//|\\*).*", "");
            for (String word : BANNED) {
                if (code.contains(word)) {
                    Check.tell("line " + (i + 1) + " has " + word);
                }
            }
            if (code.startsWith("import ") && !IMPORTS.contains(code)) {
                Check.tell("line " + (i + 1) + ": " + code);
            }
            if (code.matches(" *(public|private) (static )?(final )?class .*")) {
                classes++;
            }
            if (code.matches(".*\\bstatic\\b.*=.*") && !code.contains("static final")) {
                Check.tell("line " + (i + 1) + ": a static field that is not final");
            }
            Matcher head = HEAD.matcher(code);
            if (!head.matches() || code.trim().matches("(return|throw|else|new|for|if|while|switch) .*") || code.endsWith(";")) {
                continue;
            }
            if (code.startsWith("    public ")) {
                open.add(head.group(2));
            } else {
                others.add(head.group(2));
            }
            int end = i;
            while (end < lines.size() && !lines.get(end).equals(head.group(1) + "}")) {
                end++;
            }
            if (end - i > 60) {
                Check.tell(head.group(2) + " has " + (end - i) + " lines");
            }
            if (!head.group(2).equals("would") && head.group(3).chars().filter(c -> c == ',').count() > 6) {
                Check.tell(head.group(2) + " has more than seven parameters");
            }
        }
        for (String name : others) {
            if (open.contains(name)) {
                Check.tell("a method of the face and another one are called " + name);
            }
        }
        Check.due("methods of the face", open.size(), 38);
        Check.due("classes are no more than twelve", classes <= 12, true);
        Check.due("other methods are seen", others.size() > 60, true);
        Check.end();
    }
}
