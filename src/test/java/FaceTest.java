import java.lang.management.ManagementFactory;
import java.lang.reflect.Constructor;
import java.lang.reflect.Field;
import java.lang.reflect.Method;
import java.lang.reflect.Modifier;
import java.nio.file.Files;
import java.nio.file.Path;
import java.util.Set;
import java.util.TreeSet;

/** The public face, the rules that can be seen from outside, and the room that calls take. */
public final class FaceTest {
    /** With the first sign of each exception: Index, Argument, State. */
    private static final String[] FACE = {
        "int block(int,int,int,int,int) AS", "int face(int,int,int) IAS", "int well(int,boolean) IS",
        "int spring(int,int,int) IAS", "int valve(int,int) IA", "int trace(int,int) IAS", "int clean(int) IS",
        "int turbine(int) A", "int town(int) A", "int run(int) A", "int ofBlock(int,int) IA",
        "int ofWell(int,int) IA", "int ofSpring(int,int) IA", "int ofFace(int,boolean) I", "int pond(int) A",
        "int ofOwner(int,int) IA", "int mass(int) A", "boolean isClosed() ", "int many(int) A",
        "double meanWarmth() ", "int wouldGive(int) A", "int coldIn(int,int) IA",
        "int causedBy(int,int,int) IA", "int bestValves(int) A", "long digest() "};

    public static void main(String[] args) throws Exception {
        theFace();
        theClassesInside();
        theWords();
        theRoom();
        Check.end("FaceTest");
    }

    private static String told(Method method) {
        StringBuilder text = new StringBuilder(method.getReturnType().getName());
        text.append(' ').append(method.getName()).append('(');
        String comma = "";
        for (Class<?> type : method.getParameterTypes()) {
            text.append(comma).append(type.getName());
            comma = ",";
        }
        text.append(") ");
        for (Class<?> thrown : method.getExceptionTypes()) {
            text.append(thrown == Check.INDEX ? 'I' : thrown == Check.ARGUMENT ? 'A' : 'S');
        }
        return text.toString();
    }

    private static void theFace() {
        Set<String> due = new TreeSet<>(Set.of(FACE));
        Set<String> names = new TreeSet<>();
        Set<String> got = new TreeSet<>();
        Class<?> type = Steamfield.class;
        for (Method method : type.getDeclaredMethods()) {
            if (Modifier.isPrivate(method.getModifiers())) {
                continue;
            }
            got.add(told(method));
            names.add(method.getName());
            Check.due(method + " is public alone", method.getModifiers(), Modifier.PUBLIC);
        }
        Check.due("the face is " + got, got.equals(due), true);
        for (Method method : type.getDeclaredMethods()) {
            if (Modifier.isPrivate(method.getModifiers())) {
                Check.due(method + " bears a public name", names.contains(method.getName()), false);
            }
        }
        for (Field field : type.getDeclaredFields()) {
            Check.due(field + " is private", Modifier.isPrivate(field.getModifiers()), true);
        }
        Constructor<?>[] constructors = type.getDeclaredConstructors();
        Check.due("constructors", constructors.length, 1);
        Check.due("it is public", constructors[0].getModifiers(), Modifier.PUBLIC);
        Check.due("the class is public and final", type.getModifiers(), Modifier.PUBLIC | Modifier.FINAL);
    }

    private static void theClassesInside() {
        Class<?>[] inside = Steamfield.class.getDeclaredClasses();
        Check.due("few classes", inside.length <= 11, true);
        for (Class<?> type : inside) {
            int fields = 0;
            for (Field field : type.getDeclaredFields()) {
                boolean isStatic = Modifier.isStatic(field.getModifiers());
                Check.due(field + " is no static state", !isStatic || Modifier.isFinal(field.getModifiers()), true);
                fields += isStatic ? 0 : 1;
            }
            Check.due("few fields in " + type, fields <= 20, true);
            Check.due(type + " is static", Modifier.isStatic(type.getModifiers()), true);
        }
    }

    /** What LANGUAGE.md rules out and a search finds. */
    private static void theWords() throws Exception {
        String text = Files.readString(Path.of("src/main/java/Steamfield.java"));
        String[] ruledOut = {"import ", "->", "::", "Exact(", "synchronized", "assert", "finally", "catch",
            "System.out", "nanoTime", "currentTimeMillis", "Random", "Thread", "protected", "native", "package "};
        for (String word : ruledOut) {
            Check.due("the text has " + word, text.contains(word), false);
        }
        for (int i = 0; i < text.length(); i++) {
            if (text.charAt(i) > 126) {
                Check.due("sign at " + i, text.charAt(i), ' ');
            }
        }
    }

    /** 512 of the dearest calls must not fill the room: here they take none of it at all. */
    private static void theRoom() {
        com.sun.management.ThreadMXBean threads =
            (com.sun.management.ThreadMXBean) ManagementFactory.getThreadMXBean();
        Steamfield f = new Steamfield();
        for (int i = 0; i < 8; i++) {
            f.block(10 + i, i % 2, 2000 - 200 * i, 400 - 40 * i, 1000 * i);
        }
        for (int i = 0; i < 12; i++) {
            f.face(i % 8, (i + 1) % 8, 1 + i % 9);
        }
        for (int i = 0; i < 6; i++) {
            f.well(i, i % 2 == 1);
            f.valve(i, 9);
        }
        for (int i = 0; i < 3; i++) {
            f.spring(i, 100, 50);
        }
        f.digest();
        f.run(30);
        long id = Thread.currentThread().getId();
        long before = threads.getThreadAllocatedBytes(id);
        long sum = 0;
        for (int i = 0; i < 440; i++) {
            sum += f.digest() + f.run(30) + f.bestValves(12);
        }
        long taken = threads.getThreadAllocatedBytes(id) - before;
        Check.due("room of 1320 calls, " + taken + " bytes (" + sum + ")", taken < 100_000, true);
    }
}
