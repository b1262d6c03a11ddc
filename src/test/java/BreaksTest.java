import java.io.ByteArrayOutputStream;
import java.io.IOException;
import java.io.OutputStream;
import java.io.PrintStream;
import java.io.StringWriter;
import java.net.URI;
import java.nio.file.Files;
import java.nio.file.Path;
import java.util.ArrayList;
import java.util.HashMap;
import java.util.List;
import java.util.Map;
import javax.tools.FileObject;
import javax.tools.ForwardingJavaFileManager;
import javax.tools.JavaCompiler;
import javax.tools.JavaFileManager;
import javax.tools.JavaFileObject;
import javax.tools.SimpleJavaFileObject;
import javax.tools.ToolProvider;

/**
 * The test of a sentence fails if the sentence is broken: the program is broken as breaks.txt says,
 * compiled, and looked at by that test. A break that does not fit the source any more is told, but
 * is no failure: the program may be written otherwise. It is run from the project's own folder.
 */
public final class BreaksTest {
    private static final Check CHECK = new Check("BreaksTest");
    private static final JavaCompiler COMPILER = ToolProvider.getSystemJavaCompiler();

    /** Words of the source behind others, and what replaces them. */
    private record Change(String behind, String from, String to) {
        /** The changed source; null if the words are not there. */
        String of(String source) {
            int start = source.indexOf(behind);
            int at = start < 0 ? -1 : source.indexOf(from, start);
            return at < 0 ? null : source.substring(0, at) + to + source.substring(at + from.length());
        }
    }

    private record Entry(String heading, String words, List<Change> changes) {
        boolean means(Sentences.Sentence sentence) {
            boolean same = sentence.heading().equals(heading) || sentence.heading().startsWith(heading + ":");
            return same && sentence.words().startsWith(words);
        }

        String of(String source) {
            String broken = source;
            for (Change change : changes) {
                broken = broken == null ? null : change.of(broken);
            }
            return broken;
        }
    }

    /** A sentence by the place of its test in DocumentTest's list, as each break has classes of its own. */
    private record Place(int test, int sentence) {
    }

    public static void main(String[] args) throws Exception {
        String source = Files.readString(Path.of("src/main/java/MatchCoder.java"));
        List<Entry> entries = entries(Files.readAllLines(Path.of("src/test/breaks.txt")));
        everySentenceHasOne(entries);
        int misfits = 0;
        for (Entry entry : entries) {
            String broken = entry.of(source);
            Map<String, byte[]> classes = broken == null ? Map.of() : compiled(broken);
            if (classes.isEmpty()) {
                misfits++;
                System.out.println("BreaksTest: this does not fit the source any more: " + entry);
            } else {
                look(entry, classes);
            }
        }
        System.out.println("BreaksTest: " + entries.size() + " breaks, " + misfits + " that don't fit the source");
        CHECK.end();
    }

    private static List<Entry> entries(List<String> lines) {
        List<Entry> all = new ArrayList<>();
        String behind = "";
        String from = "";
        for (String line : lines) {
            if (line.contains(" | ") && !line.startsWith("- ") && !line.startsWith("+ ") && !line.startsWith("@ ")) {
                String[] parts = line.split(" \\| ", 2);
                all.add(new Entry(parts[0], parts[1], new ArrayList<>()));
            } else if (line.startsWith("@ ")) {
                behind = line.substring(2);
            } else if (line.startsWith("- ")) {
                from = line.substring(2);
            } else if (line.startsWith("+")) {
                all.get(all.size() - 1).changes().add(new Change(behind, from, line.substring(1).trim()));
            }
        }
        return all;
    }

    private static void everySentenceHasOne(List<Entry> entries) {
        for (Sentences sentences : DocumentTest.all()) {
            for (Sentences.Sentence sentence : sentences.list()) {
                CHECK.same("whether there is a break of \"" + sentence.words() + "\" under " + sentence.heading(),
                        entries.stream().anyMatch(entry -> entry.means(sentence)), true);
            }
        }
        for (Entry entry : entries) {
            CHECK.same("how many sentences this means: " + entry, places(entry).size(), 1);
        }
    }

    private static List<Place> places(Entry entry) {
        List<Place> all = new ArrayList<>();
        List<Sentences> tests = DocumentTest.all();
        for (int test = 0; test < tests.size(); test++) {
            List<Sentences.Sentence> list = tests.get(test).list();
            for (int k = 0; k < list.size(); k++) {
                if (entry.means(list.get(k))) {
                    all.add(new Place(test, k));
                }
            }
        }
        return all;
    }

    private static void look(Entry entry, Map<String, byte[]> classes) throws Exception {
        for (Place place : places(entry)) {
            CHECK.same("whether the sentence's test tells this: " + entry, isTold(classes, place), true);
        }
    }

    /** The test's own lines about what is wrong are due here, and so are not printed. */
    private static boolean isTold(Map<String, byte[]> classes, Place place) throws Exception {
        PrintStream out = System.out;
        System.setOut(new PrintStream(OutputStream.nullOutputStream()));
        try {
            return (boolean) new Loader(classes).loadClass("Breaks").getDeclaredMethod("isTold", int.class, int.class)
                    .invoke(null, place.test(), place.sentence());
        } finally {
            System.setOut(out);
        }
    }

    /** The classes by their names; none if the source can't be compiled. */
    private static Map<String, byte[]> compiled(String source) {
        Memory memory = new Memory();
        JavaFileObject file = new SimpleJavaFileObject(URI.create("string:///MatchCoder.java"), JavaFileObject.Kind.SOURCE) {
            @Override
            public CharSequence getCharContent(boolean ignored) {
                return source;
            }
        };
        boolean good = COMPILER.getTask(new StringWriter(), memory, null, null, null, List.of(file)).call();
        Map<String, byte[]> classes = new HashMap<>();
        if (good) {
            memory.files.forEach((name, bytes) -> classes.put(name, bytes.toByteArray()));
        }
        return classes;
    }

    /** Keeps the classes that the compiler writes. */
    private static final class Memory extends ForwardingJavaFileManager<JavaFileManager> {
        private final Map<String, ByteArrayOutputStream> files = new HashMap<>();

        Memory() {
            super(COMPILER.getStandardFileManager(null, null, null));
        }

        @Override
        public JavaFileObject getJavaFileForOutput(Location location, String name, JavaFileObject.Kind kind,
                FileObject from) {
            return new SimpleJavaFileObject(URI.create("memory:///" + name.replace('.', '/') + kind.extension), kind) {
                @Override
                public OutputStream openOutputStream() {
                    return files.computeIfAbsent(name, key -> new ByteArrayOutputStream());
                }
            };
        }
    }

    /** The broken classes, and the tests anew, so that they use those. */
    private static final class Loader extends ClassLoader {
        private final Map<String, byte[]> broken;

        Loader(Map<String, byte[]> broken) {
            super(BreaksTest.class.getClassLoader());
            this.broken = broken;
        }

        @Override
        protected Class<?> loadClass(String name, boolean resolve) throws ClassNotFoundException {
            Class<?> known = findLoadedClass(name);
            byte[] bytes = known != null ? null : broken.containsKey(name) ? broken.get(name) : own(name);
            return bytes == null ? known != null ? known : super.loadClass(name, resolve)
                    : defineClass(name, bytes, 0, bytes.length);
        }

        /** The bytes of a class of the project's tests; null for those of the library. */
        private static byte[] own(String name) throws ClassNotFoundException {
            if (name.contains(".")) {
                return null;
            }
            try (var in = BreaksTest.class.getResourceAsStream(name + ".class")) {
                return in == null ? null : in.readAllBytes();
            } catch (IOException e) {
                throw new ClassNotFoundException(name, e);
            }
        }
    }
}
