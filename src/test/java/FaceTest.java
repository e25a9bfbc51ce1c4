import com.sun.management.ThreadMXBean;
import java.io.IOException;
import java.lang.management.ManagementFactory;
import java.lang.reflect.Field;
import java.lang.reflect.Method;
import java.lang.reflect.Modifier;
import java.nio.file.Files;
import java.nio.file.Path;
import java.util.ArrayList;
import java.util.Arrays;
import java.util.List;
import java.util.Set;
import java.util.TreeSet;
import java.util.regex.Matcher;
import java.util.regex.Pattern;

/** The public face, what can be seen of LANGUAGE.md's rules from outside, and the room that calls take. */
final class FaceTest {
    private static final String[] FACE = {
        "int feed(int,int,int,int,int)",
        "int town(int) IllegalArgumentException",
        "int fault()",
        "int count(int) NoSuchElementException",
        "int person(int,int) NoSuchElementException",
        "int feud(int,int) NoSuchElementException",
        "int sign(int,int) NoSuchElementException",
        "int other(int) NoSuchElementException",
        "int years(int)",
        "boolean away(int,boolean) NoSuchElementException",
        "boolean dies(int) NoSuchElementException",
        "int marry(int,int) NoSuchElementException",
        "int quarrel(int,int) NoSuchElementException",
        "boolean peace(int)",
        "int undo()",
        "int found(int,int,int) NoSuchElementException IllegalArgumentException",
        "int again(int) NoSuchElementException",
        "int tritones()",
        "int interval(int) IllegalArgumentException",
        "int own(int,int) NoSuchElementException",
        "int breath(int) NoSuchElementException",
        "int palindrome()",
        "int tonic()",
        "int like(int) NoSuchElementException",
        "int then(int) IllegalArgumentException",
        "int when(int,int) IllegalArgumentException",
        "int quiet(int) IllegalArgumentException",
        "int match()",
        "int hear(int,int)",
        "int spy(int) NoSuchElementException",
        "int listen(int) NoSuchElementException",
        "void forget()",
        "int vote()",
        "int game(int,int,int) NoSuchElementException IllegalArgumentException",
        "int century(int,int,int) NoSuchElementException IllegalArgumentException",
        "void image()",
        "boolean restore()",
    };
    /** Four bytes for each of 7.3 million elements. */
    private static final long ROOM = 4 * 7_300_000L;
    private static final Path SOURCE = Path.of("src/main/java/TownTune.java");

    private FaceTest() {
    }

    public static void main(String[] args) throws IOException {
        publicFace();
        classesInside();
        String code = Files.readString(SOURCE).replaceAll("(?s)/\\*.*?\\*/", "").replaceAll("//[^\n]*", "");
        forbiddenWords(code);
        shortMethods(code);
        roomOfCalls();
        Check.end("FaceTest");
    }

    private static String face(Method m) {
        List<String> types = new ArrayList<>();
        for (Class<?> c : m.getParameterTypes()) {
            types.add(c.getSimpleName());
        }
        StringBuilder b = new StringBuilder();
        b.append(m.getReturnType().getSimpleName()).append(' ').append(m.getName());
        b.append('(').append(String.join(",", types)).append(')');
        for (Class<?> c : m.getExceptionTypes()) {
            b.append(' ').append(c.getSimpleName());
        }
        return b.toString();
    }

    private static void publicFace() {
        int itself = TownTune.class.getModifiers();
        Check.holds("TownTune is public and final", Modifier.isPublic(itself) && Modifier.isFinal(itself));
        Set<String> names = new TreeSet<>();
        Set<String> found = new TreeSet<>();
        for (Method m : TownTune.class.getDeclaredMethods()) {
            if (Modifier.isPublic(m.getModifiers())) {
                found.add(face(m));
                names.add(m.getName());
            } else {
                Check.holds(m + " is private", Modifier.isPrivate(m.getModifiers()));
            }
        }
        Set<String> want = new TreeSet<>(Arrays.asList(FACE));
        Check.holds("the face is " + found, found.equals(want));
        for (Method m : TownTune.class.getDeclaredMethods()) {
            Check.holds(m + " bears a public name", Modifier.isPublic(m.getModifiers()) || !names.contains(m.getName()));
        }
        Check.holds("one constructor", TownTune.class.getDeclaredConstructors().length == 1
                && TownTune.class.getConstructors().length == 1);
        Field[] open = TownTune.class.getFields();
        Check.holds("NONE is the one constant", open.length == 1 && open[0].getName().equals("NONE"));
        for (Field f : TownTune.class.getDeclaredFields()) {
            Check.holds(f + " is private", Modifier.isPrivate(f.getModifiers()) || f.getName().equals("NONE"));
            onlyConstants(f);
        }
    }

    private static void onlyConstants(Field f) {
        Check.holds(f + " is no static state",
                !Modifier.isStatic(f.getModifiers()) || Modifier.isFinal(f.getModifiers()));
    }

    private static void classesInside() {
        Class<?>[] inside = TownTune.class.getDeclaredClasses();
        Check.holds("some twelve classes", inside.length <= 14);
        for (Class<?> c : inside) {
            Check.holds(c + " is static", Modifier.isStatic(c.getModifiers()));
            Check.holds(c + " isn't public", !Modifier.isPublic(c.getModifiers()));
            int fields = 0;
            for (Field f : c.getDeclaredFields()) {
                onlyConstants(f);
                fields += Modifier.isStatic(f.getModifiers()) ? 0 : 1;
            }
            Check.holds(c + " has " + fields + " fields", fields <= 24);
            for (Method m : c.getDeclaredMethods()) {
                Check.holds(m + " takes too much", m.getParameterCount() <= 7);
                for (String face : FACE) {
                    Check.holds(m + " bears a public name", !face.contains(" " + m.getName() + "("));
                }
            }
        }
    }

    /** Only what LANGUAGE.md forbids: another program within its rules passes too. */
    private static void forbiddenWords(String code) {
        for (String word : new String[] {"finally", "synchronized", "assert", "hashCode", "protected", "package",
            "Thread", "Random", "File", "Class", "getMessage", "System\\.(?!arraycopy\\b)", "\\w+Exact"}) {
            Matcher m = Pattern.compile("\\b" + word + "\\b").matcher(code);
            Check.holds("the program has the word " + word, !m.find());
        }
        Matcher caught = Pattern.compile("catch\\s*\\((?:final\\s+)?([\\w| ]+)\\s\\w+\\)").matcher(code);
        while (caught.find()) {
            Check.holds("caught: " + caught.group(1), !Pattern.compile("\\b(Throwable|Error|Exception|RuntimeException"
                    + "|IndexOutOfBoundsException|ArrayIndexOutOfBoundsException|NullPointerException"
                    + "|ArithmeticException|ClassCastException|NegativeArraySizeException|ArrayStoreException)\\b")
                    .matcher(caught.group(1)).find());
        }
        Check.holds("a lambda", !Pattern.compile("(?<!case [^:;{}]{0,60})->").matcher(code).find());
        Check.holds("a method reference", !code.contains("::"));
        Check.holds("static initialiser", !Pattern.compile("static\\s*\\{").matcher(code).find());
        Matcher imports = Pattern.compile("import ([^;]*);").matcher(code);
        while (imports.find()) {
            Check.holds(imports.group(), Set.of("java.util.NoSuchElementException", "java.util.ArrayList",
                    "java.util.List", "java.util.Arrays", "java.util.Iterator").contains(imports.group(1)));
        }
    }

    private static void shortMethods(String code) {
        String[] lines = code.split("\n");
        int begin = -1;
        String indent = "";
        for (int i = 0; i < lines.length; i++) {
            Matcher m = Pattern.compile("^( {8}| {4})(?! )[\\w\\[\\] ]+\\(.*").matcher(lines[i]);
            if (begin < 0 && m.matches() && !lines[i].contains(";") && !lines[i].contains(" class ")) {
                begin = i;
                indent = m.group(1);
            }
            if (begin >= 0 && lines[i].equals(indent + "}")) {
                Check.holds(lines[begin].trim() + " has " + (i - begin + 1) + " lines", i - begin < 70);
                begin = -1;
            }
        }
    }

    /** All that a run makes lives in one room, of some 7.3 million fields and elements. */
    private static void roomOfCalls() {
        ThreadMXBean beans = (ThreadMXBean) ManagementFactory.getThreadMXBean();
        long thread = Thread.currentThread().getId();
        int[] text = Check.fed(Check.bytes("elder 0 10 0;child 0 100 4;deaf 1 200 5;spy 1 300 7;key 2;feud 0 1;"
                + "other 2 11 5 10 4;sings base + last * (year + 1) - sung;"));
        manyCalls(new TownTune(), text);
        long before = beans.getThreadAllocatedBytes(thread);
        manyCalls(new TownTune(), text);
        long made = beans.getThreadAllocatedBytes(thread) - before;
        Check.holds("an object and its calls made " + made + " bytes", made < ROOM);
    }

    private static void manyCalls(TownTune x, int[] text) {
        for (int i = 0; i < text.length; i += 5) {
            x.feed(text[i], text[i + 1], text[i + 2], text[i + 3], text[i + 4]);
        }
        x.town(text.length * 4);
        for (int i = 0; i < 12; i++) {
            x.years(2);
            x.again(0);
            x.palindrome();
            x.tonic();
            x.like(0);
            x.like(1);
            x.then(399);
            x.when(12, 1);
            x.quiet(10);
            x.match();
            x.hear(i * 9, 3);
            x.spy(0);
            x.listen(0);
            x.vote();
            x.game(0, 1, 1);
            x.century(i, 20, 2);
            x.image();
            x.marry(0, 2);
            x.quarrel(1, 2);
            x.peace(0);
            x.away(3, i % 2 == 0);
            x.undo();
            x.restore();
        }
    }
}
