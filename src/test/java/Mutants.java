import java.io.ByteArrayOutputStream;
import java.io.IOException;
import java.io.InputStream;
import java.io.OutputStream;
import java.io.PrintStream;
import java.io.StringWriter;
import java.net.URI;
import java.nio.file.Files;
import java.nio.file.Path;
import java.util.ArrayList;
import java.util.HashMap;
import java.util.List;
import java.util.Map;
import java.util.concurrent.ExecutorService;
import java.util.concurrent.Executors;
import java.util.concurrent.Future;
import java.util.concurrent.TimeUnit;
import java.util.concurrent.TimeoutException;
import javax.tools.FileObject;
import javax.tools.ForwardingJavaFileManager;
import javax.tools.JavaCompiler;
import javax.tools.JavaFileManager;
import javax.tools.JavaFileObject;
import javax.tools.SimpleJavaFileObject;
import javax.tools.ToolProvider;

/**
 * Breaks the class in one place at a time, as src/test/mutants.txt tells, and looks whether the test of just the sentence
 * that is broken then fails. Not a part of CI; runs from the top of the checkout by .ci/mutants.
 */
public final class Mutants {
    private static final Path SOURCE = Path.of("src/main/java/Witnesshall.java");
    private static final Path LIST = Path.of("src/test/mutants.txt");
    private static final int SECONDS = 60;

    /** A change of the text, and the words of the sentence whose test is to see it. */
    private record Mutant(int line, String words, String after, String old, String fresh) {
        String of(String source) {
            int start = source.indexOf(after);
            int at = start < 0 ? -1 : source.indexOf(old, start);
            return at < 0 ? null : source.substring(0, at) + fresh + source.substring(at + old.length());
        }
    }

    private Mutants() {
    }

    /** "= words" of a sentence, then "- [place @] old text" and "+ new text"; the text after a place is its first after that. */
    private static List<Mutant> mutants() throws IOException {
        List<Mutant> found = new ArrayList<>();
        List<String> lines = Files.readAllLines(LIST);
        String words = "";
        for (int i = 0; i < lines.size(); i++) {
            String line = lines.get(i);
            if (line.startsWith("= ")) {
                words = line.substring(2);
            } else if (line.startsWith("- ")) {
                String[] parts = line.substring(2).split(" @ ", 2);
                String after = parts.length == 2 ? parts[0] : "";
                String next = lines.get(i + 1);
                String fresh = next.length() > 2 ? next.substring(2) : "";
                found.add(new Mutant(i + 1, words, after, broken(parts[parts.length - 1]), broken(fresh)));
            }
        }
        return found;
    }

    /** Two statements of a method of the face stand in two lines. */
    private static String broken(String text) {
        return text.replace("\\n", "\n        ");
    }

    private static final class Text extends SimpleJavaFileObject {
        private final String text;

        Text(String text) {
            super(URI.create("string:///Witnesshall.java"), Kind.SOURCE);
            this.text = text;
        }

        @Override
        public CharSequence getCharContent(boolean ignoreEncodingErrors) {
            return text;
        }
    }

    private static final class Made extends SimpleJavaFileObject {
        private final ByteArrayOutputStream bytes = new ByteArrayOutputStream();

        Made(String name) {
            super(URI.create("mem:///" + name + ".class"), Kind.CLASS);
        }

        @Override
        public OutputStream openOutputStream() {
            return bytes;
        }
    }

    private static Map<String, Made> compiled(String source) {
        JavaCompiler compiler = ToolProvider.getSystemJavaCompiler();
        Map<String, Made> made = new HashMap<>();
        JavaFileManager manager = new ForwardingJavaFileManager<>(compiler.getStandardFileManager(null, null, null)) {
            @Override
            public JavaFileObject getJavaFileForOutput(Location at, String name, JavaFileObject.Kind kind, FileObject sibling) {
                return made.computeIfAbsent(name, Made::new);
            }
        };
        boolean isCompiled = compiler.getTask(new StringWriter(), manager, null, List.of("-nowarn"), null,
            List.of(new Text(source))).call();
        return isCompiled ? made : null;
    }

    /** Loads the broken class, and the tests anew, so that they use it. */
    private static final class Loader extends ClassLoader {
        private final Map<String, Made> made;

        Loader(Map<String, Made> made) {
            super(Mutants.class.getClassLoader());
            this.made = made;
        }

        @Override
        protected Class<?> loadClass(String name, boolean resolve) throws ClassNotFoundException {
            synchronized (getClassLoadingLock(name)) {
                Class<?> loaded = findLoadedClass(name);
                if (loaded != null) {
                    return loaded;
                }
                byte[] bytes = bytesOf(name);
                return bytes == null ? super.loadClass(name, resolve) : defineClass(name, bytes, 0, bytes.length);
            }
        }

        private byte[] bytesOf(String name) {
            if (made.containsKey(name)) {
                return made.get(name).bytes.toByteArray();
            }
            try (InputStream in = name.startsWith("java") ? null : getResourceAsStream(name.replace('.', '/') + ".class")) {
                return in == null ? null : in.readAllBytes();
            } catch (IOException e) {
                return null;
            }
        }
    }

    private static String verdict(String source, Mutant mutant) {
        String broken = mutant.of(source);
        if (broken == null) {
            return "its text is not there";
        }
        Map<String, Made> made = compiled(broken);
        if (made == null) {
            return "does not compile";
        }
        ExecutorService runner = Executors.newSingleThreadExecutor(task -> {
            Thread thread = new Thread(task);
            thread.setDaemon(true);
            return thread;
        });
        try {
            Future<Object> wrong = runner.submit(() -> new Loader(made).loadClass("SentencesTest")
                .getMethod("wrong", String.class).invoke(null, mutant.words()));
            int count = (Integer) wrong.get(SECONDS, TimeUnit.SECONDS);
            return count > 0 ? "" : count < 0 ? "there is no such sentence" : "is not seen";
        } catch (TimeoutException e) {
            return "";
        } catch (Exception e) {
            return "ends with " + e.getCause();
        } finally {
            runner.shutdownNow();
        }
    }

    /** How many sentences are tried with no mutant. */
    private static int untried(List<Mutant> mutants, PrintStream out) {
        int left = 0;
        for (String name : SentencesTest.names()) {
            if (mutants.stream().noneMatch(mutant -> name.contains(mutant.words()))) {
                left++;
                out.println("no mutant: " + name);
            }
        }
        return left;
    }

    public static void main(String[] args) throws Exception {
        String source = Files.readString(SOURCE);
        List<Mutant> mutants = mutants();
        PrintStream out = System.out;
        System.setOut(new PrintStream(OutputStream.nullOutputStream()));
        int left = untried(mutants, out);
        for (Mutant mutant : mutants) {
            String told = verdict(source, mutant);
            if (!told.isEmpty()) {
                left++;
                out.println("mutants.txt, line " + mutant.line() + " (" + mutant.words() + "): " + told);
            }
        }
        out.println(mutants.size() + " mutants, " + left + " not as they should be");
        if (left > 0 || mutants.isEmpty()) {
            System.exit(1);
        }
    }
}
