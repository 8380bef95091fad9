import java.io.IOException;
import java.lang.reflect.Constructor;
import java.lang.reflect.Field;
import java.lang.reflect.Method;
import java.lang.reflect.Modifier;
import java.nio.file.Files;
import java.nio.file.Path;
import java.util.ArrayList;
import java.util.List;
import java.util.Set;
import java.util.TreeSet;
import java.util.regex.Matcher;
import java.util.regex.Pattern;

/** The face of the class, and those rules of LANGUAGE.md that a look at the class can tell. */
public final class FaceTest {
    private static final String[] FACE = {
        "row/3", "set/3", "copy/5", "drop/1", "feed/1", "league/0", "fault/0", "happen/1", "sail/2",
        "days/1", "undo/0", "ship/2", "port/2", "news/2", "knows/2", "takes/2", "ahead/2",
        "carried/3", "fame/4", "overtaken/3", "sure/2", "began/3", "odds/5", "followed/5",
        "image/1", "restore/1", "kind/1", "as/2", "ask/2", "trace/1", "count/1", "status/0",
    };

    public static void main(String[] args) throws IOException {
        methods();
        constants();
        constructors();
        classesInside();
        source();
        document();
        room();
        Check.end("FaceTest");
    }

    private static void methods() {
        Set<String> shown = new TreeSet<>();
        Set<String> names = new TreeSet<>();
        for (Method m : NewsShips.class.getDeclaredMethods()) {
            if (Modifier.isPublic(m.getModifiers())) {
                shown.add(m.getName() + "/" + m.getParameterCount());
                names.add(m.getName());
                Check.holds(m + " answers an int", m.getReturnType() == int.class);
                for (Class<?> type : m.getParameterTypes()) {
                    Check.holds(m + " takes ints", type == int.class);
                }
            }
        }
        Check.holds("the face is " + shown, shown.equals(new TreeSet<>(List.of(FACE))));
        for (Class<?> c : allClasses()) {
            for (Method m : c.getDeclaredMethods()) {
                boolean own = c != NewsShips.class || !Modifier.isPublic(m.getModifiers());
                Check.holds(m + " bears a name of its own", !own || !names.contains(m.getName()));
                boolean hidden = Modifier.isPrivate(m.getModifiers());
                Check.holds(m + " is hidden", c != NewsShips.class || hidden || !own);
                Check.holds(m + " takes at most seven", m.getParameterCount() <= 7);
            }
        }
    }

    private static void constants() {
        Set<String> shown = new TreeSet<>();
        for (Class<?> c : allClasses()) {
            int held = 0;
            for (Field f : c.getDeclaredFields()) {
                int mods = f.getModifiers();
                if (Modifier.isStatic(mods)) {
                    Check.holds(f + " is final", Modifier.isFinal(mods));
                } else {
                    held++;
                }
                if (c == NewsShips.class && !Modifier.isPrivate(mods)) {
                    shown.add(f.getName());
                }
            }
            Check.holds(c + " has few fields: " + held, held <= 20);
        }
        Check.holds("constants " + shown, shown.equals(new TreeSet<>(List.of("NONE", "BAD", "STATE", "FULL"))));
        Check.due("NONE", NewsShips.NONE, -1000000);
        Check.due("BAD", NewsShips.BAD, -1000001);
        Check.due("STATE", NewsShips.STATE, -1000002);
        Check.due("FULL", NewsShips.FULL, -1000003);
    }

    private static void constructors() {
        Constructor<?>[] all = NewsShips.class.getDeclaredConstructors();
        Check.due("constructors", all.length, 1);
        Check.holds("the constructor is public", Modifier.isPublic(all[0].getModifiers()));
        Check.due("its parameters", all[0].getParameterCount(), 0);
    }

    private static void classesInside() {
        Check.holds("the class is final", Modifier.isFinal(NewsShips.class.getModifiers()));
        Check.holds("few classes", allClasses().size() <= 12);
        for (Class<?> c : NewsShips.class.getDeclaredClasses()) {
            Check.holds(c + " is static", Modifier.isStatic(c.getModifiers()));
            Check.holds(c + " is not shown", !Modifier.isPublic(c.getModifiers()));
        }
    }

    private static List<Class<?>> allClasses() {
        List<Class<?>> all = new ArrayList<>(List.of(NewsShips.class.getDeclaredClasses()));
        all.add(NewsShips.class);
        return all;
    }

    private static void source() throws IOException {
        String text = Files.readString(Path.of("src/main/java/NewsShips.java"));
        for (int i = 0; i < text.length(); i++) {
            if (text.charAt(i) > 126) {
                Check.holds("a plain sign at " + i, false);
            }
        }
        String code = text.replaceAll("(?s)/\\*.*?\\*/", " ").replaceAll("//[^\n]*", " ");
        String[] words = {
            "throw", "throws", "try", "catch", "finally", "synchronized", "assert", "package", "volatile",
            "native", "protected", "var", "random", "Random", "currentTimeMillis", "nanoTime", "Thread",
            "hashCode", "toString", "Object", "\\w+Exact",
        };
        for (String word : words) {
            Check.holds("no " + word, !Pattern.compile("\\b" + word + "\\b").matcher(code).find());
        }
        Check.holds("no lambda, no reference to a method", !code.contains("->") && !code.contains("::"));
        Matcher imports = Pattern.compile("import ([^;]+);").matcher(code);
        while (imports.find()) {
            Check.holds("an import that may be: " + imports.group(1), imports.group(1).equals("java.util.Arrays"));
        }
    }

    /** Each line of the document's face stands in the source, word for word. */
    private static void document() throws IOException {
        Path doc = Path.of("../shared/DOC.md");
        if (!Files.exists(doc)) {
            System.out.println(doc + " is not here, so the face is not compared with it");
            return;
        }
        String code = Files.readString(Path.of("src/main/java/NewsShips.java"));
        Matcher face = Pattern.compile("(?s)```java\n(.*?)```").matcher(Files.readString(doc));
        int lines = 0;
        for (String line : face.find() ? face.group(1).split("\n") : new String[0]) {
            if (line.contains("public ")) {
                lines++;
                String stands = line.endsWith(");") ? line.substring(0, line.length() - 1) + " {" : line;
                Check.holds("it stands in the class: " + line, code.contains("\n" + stands + "\n"));
            }
        }
        // The class, its constants, its constructor and its methods.
        Check.due("lines of the face", lines, 3 + FACE.length);
    }

    /** No call makes an object, so a run's room is what its constructors make. */
    private static void room() {
        Object bean = java.lang.management.ManagementFactory.getThreadMXBean();
        if (!(bean instanceof com.sun.management.ThreadMXBean)) {
            return;
        }
        com.sun.management.ThreadMXBean threads = (com.sun.management.ThreadMXBean) bean;
        if (!threads.isThreadAllocatedMemorySupported()) {
            return;
        }
        NewsShips x = Check.with("p6;w0,1,4;w1,2,3;w2,3,5;w3,4,9;w4,5,1;w5,0,2;w0,3,7;w1,4,8;t0;c1;b2;m3;");
        calls(x);
        long before = threads.getCurrentThreadAllocatedBytes();
        long same = threads.getCurrentThreadAllocatedBytes() - before;
        before = threads.getCurrentThreadAllocatedBytes();
        calls(x);
        long made = threads.getCurrentThreadAllocatedBytes() - before;
        Check.holds("calls make no objects: " + made + " bytes, " + same + " for none", made <= same);
    }

    private static void calls(NewsShips x) {
        x.row(0, 2, 40);
        x.set(0, 1, 20);
        x.copy(0, 0, 0, 1, 3);
        x.image(0);
        x.happen(0);
        x.sail(0, 0);
        x.days(5);
        for (int i = 0; i < 6; i++) {
            x.ahead(i, 0);
            x.carried(1, i, 0);
            x.overtaken(1, i, 0);
            x.odds(i, 0, 99, 3, 0);
        }
        x.fame(3, 0, 30, 0);
        x.sure(0, 3);
        x.began(0, 0, 6);
        x.followed(2, 0, 0, 12, 0);
        x.ask(1, 0);
        x.undo();
        x.restore(0);
        x.drop(0);
        x.feed('p');
        x.league();
    }
}
