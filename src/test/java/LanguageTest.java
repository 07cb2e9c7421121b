import java.io.IOException;
import java.nio.file.Files;
import java.nio.file.Path;
import java.util.List;
import java.util.regex.Matcher;
import java.util.regex.Pattern;

/** What of ../shared/LANGUAGE.md can be seen from the text of the class, and its face. Runs from the top of the checkout. */
public final class LanguageTest {
    private static final Path SOURCE = Path.of("src/main/java/Witnesshall.java");
    /** The number of a rule, and what it leaves out. */
    private static final String[][] FORBIDDEN = {
        {"2", "::"}, {"2", "^(?!.*\\b(case .*|default )->).*->"}, {"2", "^package "},
        {"4", "^import (?!java\\.util\\.(ArrayList|List|Arrays|Iterator|NoSuchElementException);)"},
        {"4", "\\bjava\\.(?!util\\.(ArrayList|List|Arrays|Iterator|NoSuchElementException)\\b)"},
        {"4", "\\bSystem\\.(?!arraycopy\\b)"}, {"4", "\\bString\\.|\\bCharacter\\.|\\bObject\\b|\\bBoolean\\.|\\bDouble\\b"},
        {"4", "Exact\\b"}, {"4", "\\b(BigInteger|BigDecimal|Thread|Runnable|Random|Scanner|Optional|HashMap|HashSet)\\b"},
        {"4", "\\bMath\\.(sqrt|cbrt|pow|log|log10|exp|floor|ceil|round|random|sin|cos|tan|hypot|rint)\\("},
        {"4", "\\.(stream|format|printf|println)\\("},
        {"5", "\\bstatic (?!final |class |abstract |interface |enum |record |<|[\\w.<>\\[\\]]+ \\w+\\()"},
        {"6", "\\b(finally|assert|synchronized|volatile|native|transient|strictfp)\\b"},
        {"6", "\\bcatch\\b.*\\b(ArrayIndex\\w*|StringIndex\\w*|NullPointer\\w*|ClassCast\\w*|NegativeArray\\w*|ArrayStore\\w*|Exception|Throwable|Error|\\w+Error)\\b"},
        {"6", "\\bextends \\w*(Exception|Error|Throwable)\\b"}, {"6", "\\b(getMessage|printStackTrace|getCause|hashCode|getClass)\\b"},
        {"6", "\\btry \\("}, {"1", "\\bprotected\\b"}, {"10", "\"\\s*\\+|\\+\\s*\""},
        {"13", "\\b(currentTimeMillis|nanoTime|getenv|getProperty|exit)\\b"}};
    private static final String[] FACE = {"int put(int, int)", "int make(int, int, int, int)", "int work(int, int, int, int)",
        "int root(int, int)", "int power(int, int, int, int)", "int inverse(int, int, int)", "int shift(int, int, int)",
        "int lucas(int, int, int, int, int)", "int fetch(int, int, int)", "int take(int, int, int)", "int sheet(int, int)",
        "int write(int)", "int writeValue(int)", "int strike()", "int file()", "int seek(int, int)", "int decide(int)",
        "int next(int)", "int accuse(int, int)", "int withdraw(int)", "int restore(int)", "int undo()", "int base(int)",
        "int drop(int)", "int begin(int)", "int grow(int, boolean)", "int knock()", "java.lang.String desk(int, int)",
        "int number(int, int)", "boolean bit(int, int)", "int compare(int, int)", "int fault()",
        "java.lang.String sheetText()", "int round(int, int)", "int passes(int)", "int passer(int)", "int passing(int, int)",
        "int witnesses(int)", "boolean sifted(int)", "java.lang.String paper(int)", "int ofPaper(int, int)",
        "int damaged(int, int, int)", "boolean hangs(int, int)", "java.lang.String under(int)", "int near(int, boolean)",
        "int span(int, int, int)", "java.lang.String link(int, int)", "int ofChain(int, int)", "int count(int)",
        "boolean isSound()", "long digest()"};
    private static int wrong;

    private static void tell(String text) {
        wrong++;
        System.out.println(text);
    }

    private static void words(List<String> lines) {
        for (int i = 0; i < lines.size(); i++) {
            String line = lines.get(i);
            if (line.strip().startsWith("/**") || line.strip().startsWith("//")) {
                continue;
            }
            for (String[] rule : FORBIDDEN) {
                if (Pattern.compile(rule[1]).matcher(line).find()) {
                    tell("rule " + rule[0] + ", line " + (i + 1) + ": " + line.strip());
                }
            }
        }
    }

    private static void methods(List<String> lines) {
        Pattern head = Pattern.compile("^( {4}| {8})(?! |return|if|for|switch|else|throw)[\\w<>\\[\\]. ]+\\(([^;]*)$");
        for (int i = 0; i < lines.size(); i++) {
            Matcher found = head.matcher(lines.get(i));
            if (found.find()) {
                int end = i + 1;
                while (end < lines.size() && !lines.get(end).equals(found.group(1) + "}")) {
                    end++;
                }
                if (end - i + 1 > 60) {
                    tell("line " + (i + 1) + ": a method of " + (end - i + 1) + " lines");
                }
                if (found.group(2).chars().filter(c -> c == ',').count() > 6) {
                    tell("line " + (i + 1) + ": more than seven parameters");
                }
            }
        }
    }

    private static void face() {
        List<String> due = List.of(FACE);
        List<String> publicNames = due.stream().map(m -> m.replaceAll("^\\S+ (\\w+)\\(.*", "$1")).toList();
        int publics = 0;
        for (java.lang.reflect.Method method : Witnesshall.class.getDeclaredMethods()) {
            String text = method.toGenericString().replaceAll(" throws .*", "").replace("Witnesshall.", "")
                .replace(",", ", ").replaceAll("^public ", "");
            int modifiers = method.getModifiers();
            if (java.lang.reflect.Modifier.isPublic(modifiers)) {
                publics++;
                if (!due.contains(text)) {
                    tell("not of the face: " + text);
                }
            } else if (!java.lang.reflect.Modifier.isPrivate(modifiers) || publicNames.contains(method.getName())) {
                tell("a member that is neither public nor private, or bears a public name: " + text);
            }
        }
        if (publics != due.size()) {
            tell(publics + " public methods, due are " + due.size());
        }
        if (Witnesshall.class.getDeclaredClasses().length > 11) {
            tell("more than twelve classes");
        }
        for (Class<?> inside : Witnesshall.class.getDeclaredClasses()) {
            long fields = java.util.Arrays.stream(inside.getDeclaredFields())
                .filter(f -> !java.lang.reflect.Modifier.isStatic(f.getModifiers())).count();
            if (fields > 20) {
                tell(inside + " has " + fields + " fields");
            }
        }
    }

    public static void main(String[] args) throws IOException {
        List<String> lines = Files.readAllLines(SOURCE);
        words(lines);
        methods(lines);
        face();
        System.out.println(wrong == 0 ? "the class keeps to what is looked at here" : wrong + " places do not");
        if (wrong > 0) {
            System.exit(1);
        }
    }
}
