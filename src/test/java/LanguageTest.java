import java.io.IOException;
import java.nio.file.Files;
import java.nio.file.Path;
import java.util.ArrayDeque;
import java.util.Deque;
import java.util.Map;
import java.util.Set;
import java.util.TreeMap;
import java.util.TreeSet;
import java.util.regex.Matcher;
import java.util.regex.Pattern;

/** What of LANGUAGE.md can be seen in the text of the program. */
final class LanguageTest {
    private static final int LONGEST_METHOD = 60;
    private static final int MOST_PARAMETERS = 7;
    private static final int MOST_CLASSES = 12;
    private static final int MOST_DEEP = 8;
    private static final String[] FORBIDDEN = {
        "throw", "throws", "try", "catch", "finally", "synchronized", "assert", "package", "protected", "->", "::",
        "Exact", "hashCode", "toString", "System\\.(?!arraycopy\\b)", "static \\{", "volatile", "native", "var"};

    public static void main(String[] args) throws IOException {
        String text = Files.readString(Path.of(args.length > 0 ? args[0] : "src/main/java/BoulderLand.java"));
        for (int i = 0; i < text.length(); i++) {
            char c = text.charAt(i);
            if (c > 126 || (c < 32 && c != '\n')) {
                Check.so("sign " + (int) c + " at " + i + " is plain", false);
            }
        }
        String code = text.replaceAll("(?s)/\\*.*?\\*/", "").replaceAll("//[^\n]*", "");
        for (String word : FORBIDDEN) {
            boolean isWord = Character.isLetter(word.charAt(0)) && !word.equals("Exact");
            Matcher found = Pattern.compile(isWord ? "\\b" + word + (word.endsWith(")") ? "" : "\\b") : word).matcher(code);
            Check.so("no " + word, !found.find());
        }
        checkImports(code);
        checkClasses(code);
        checkMethods(code);
        checkDepth(code);
        Check.end();
    }

    // methods of one name count as one: the chain found is no shorter than the true one
    private static void checkDepth(String code) {
        Map<String, Set<String>> calls = new TreeMap<>();
        Set<String> into = new TreeSet<>();
        Matcher line = Pattern.compile("(?m)^.*$").matcher(code);
        Pattern head = Pattern.compile("^\\s*(?:(?:public|private|static) )*[\\w\\[\\]]+ (\\w+)\\([^()]*\\) \\{$");
        while (line.find()) {
            Matcher made = head.matcher(line.group());
            if (made.matches() && !made.group(1).equals("if")) {
                into = calls.computeIfAbsent(made.group(1), name -> new TreeSet<>());
                continue;
            }
            Matcher call = Pattern.compile("\\b(\\w+)\\(").matcher(line.group());
            while (call.find()) {
                into.add(call.group(1));
            }
        }
        for (String name : calls.keySet()) {
            int depth = depth(calls, name, MOST_DEEP);
            Check.so(name + " calls " + depth + " deep", depth <= MOST_DEEP);
        }
    }

    private static int depth(Map<String, Set<String>> calls, String name, int left) {
        int most = 0;
        if (left >= 0) {
            for (String called : calls.get(name)) {
                most = Math.max(most, calls.containsKey(called) ? depth(calls, called, left - 1) : 0);
            }
        }
        return most + 1;
    }

    private static void checkImports(String code) {
        Matcher imported = Pattern.compile("import ([^;]+);").matcher(code);
        while (imported.find()) {
            Check.so("import " + imported.group(1),
                imported.group(1).matches("java\\.util\\.(Arrays|ArrayList|List|Iterator)"));
        }
    }

    private static void checkClasses(String code) {
        Matcher made = Pattern.compile("(\\S+ \\S+ \\S+) class (\\w+)").matcher(code);
        int classes = 0;
        while (made.find()) {
            classes++;
            String words = made.group(1);
            boolean isFace = made.group(2).equals("BoulderLand");
            Check.so("class " + made.group(2) + ": " + words,
                words.endsWith(isFace ? "public final" : "private static final"));
        }
        Check.so(classes + " classes are few enough", classes >= 1 && classes <= MOST_CLASSES);
    }

    // a method's head is a line that ends in ") {" and does not begin with a word of control
    private static void checkMethods(String code) {
        Pattern head = Pattern.compile("^\\s*(?!if|for|while|switch|else|\\}|return)[\\w\\[\\] ]+\\((.*)\\) \\{$");
        Deque<Integer> starts = new ArrayDeque<>();
        String[] lines = code.split("\n", -1);
        for (int i = 0; i < lines.length; i++) {
            Matcher found = head.matcher(lines[i]);
            if (found.matches()) {
                int parameters = found.group(1).isBlank() ? 0 : found.group(1).split(",").length;
                Check.so("parameters: " + lines[i].trim(), parameters <= MOST_PARAMETERS);
            }
            for (char c : lines[i].toCharArray()) {
                if (c == '{') {
                    starts.push(found.matches() ? i : -1);
                } else if (c == '}') {
                    int start = starts.pop();
                    Check.so("length of the method that ends in line " + (i + 1),
                        start < 0 || i - start < LONGEST_METHOD);
                }
            }
        }
        Check.so("brackets match", starts.isEmpty());
    }
}
