import java.util.function.Consumer;
import java.util.function.ObjIntConsumer;

/** How the edges are tested: what is taken, and what is refused and changes nothing. */
final class Edges {
    /** A field of which nothing is told yet. */
    static final Consumer<Steamfield> NOTHING = f -> { };
    /** A field with as many told of all as there may be, in its third step. */
    static final Consumer<Steamfield> FULL = Edges::tellAll;

    private Edges() {
    }

    private static void tellAll(Steamfield f) {
        for (int i = 0; i < 8; i++) {
            f.block(10 + 10 * i, i % 2, 250 * i, 50 * i, 1000 * i);
        }
        for (int i = 0; i < 12; i++) {
            f.face(i % 8, (i + 1 + i / 8) % 8, 1 + i % 9);
        }
        for (int i = 0; i < 6; i++) {
            f.well(i + 1, i % 2 == 1);
            f.valve(i, i + 3);
        }
        for (int i = 0; i < 3; i++) {
            f.spring(i + 2, 100 * i, 5 * i);
        }
        f.town(500);
        f.trace(2, 77);
        f.run(2);
    }

    static Steamfield told(Consumer<Steamfield> story) {
        Steamfield f = new Steamfield();
        story.accept(f);
        return f;
    }

    /** The call throws just that; of two fields of one story the one that refused it stays as the other one. */
    static void refused(String what, Class<?> want, Consumer<Steamfield> story, Consumer<Steamfield> call) {
        Steamfield refusing = told(story);
        Steamfield left = told(story);
        Check.dueThrow(what, want, () -> call.accept(refusing));
        Check.due(what + ": what is seen behind it", seen(refusing), seen(left));
        goOn(refusing);
        goOn(left);
        Check.due(what + ": what comes behind it", seen(refusing), seen(left));
    }

    static void taken(String what, Consumer<Steamfield> story, Consumer<Steamfield> call) {
        Steamfield f = told(story);
        Check.dueThrow(what, null, () -> call.accept(f));
    }

    /** The least and the most are taken; the next beyond on each side and the farthest are wrong arguments. */
    static void range(String what, int least, int most, Consumer<Steamfield> story, ObjIntConsumer<Steamfield> call) {
        for (int value : new int[] {least, most}) {
            taken(what + " " + value, story, f -> call.accept(f, value));
        }
        for (int value : new int[] {least - 1, most + 1, Integer.MIN_VALUE, Integer.MAX_VALUE}) {
            refused(what + " " + value, Check.ARGUMENT, story, f -> call.accept(f, value));
        }
    }

    /** The first and the last of so many are taken; those beyond on each side are no such ones. */
    static void index(String what, int count, Consumer<Steamfield> story, ObjIntConsumer<Steamfield> call) {
        if (count > 0) {
            for (int value : new int[] {0, count - 1}) {
                taken(what + " " + value, story, f -> call.accept(f, value));
            }
        }
        for (int value : new int[] {-1, count, Integer.MIN_VALUE, Integer.MAX_VALUE}) {
            refused(what + " " + value + " of " + count, Check.INDEX, story, f -> call.accept(f, value));
        }
    }

    /** Tells one more of each, as far as there may be, and lets steps pass: so what cannot be asked is seen. */
    private static void goOn(Steamfield f) {
        int block = f.many(0) < 8 ? f.block(33, 1, 700, 210, 90) : 0;
        if (f.many(1) < 12 && block > 0) {
            f.face(0, block, 2);
        }
        int well = f.many(2) < 6 ? f.well(block, true) : 0;
        f.valve(well, 4);
        if (f.many(3) < 3) {
            f.spring(block, 70, 30);
        }
        f.run(7);
    }

    /** All that can be asked of a field, as a text. */
    static String seen(Steamfield f) {
        StringBuilder text = new StringBuilder();
        add(text, "many", 13, f::many);
        for (int i = 0; i < f.many(0); i++) {
            int block = i;
            add(text, "block", 6, what -> f.ofBlock(block, what));
        }
        for (int i = 0; i < f.many(2); i++) {
            int well = i;
            add(text, "well", 9, what -> f.ofWell(well, what));
        }
        for (int i = 0; i < f.many(1); i++) {
            int face = i;
            add(text, "face", 2, what -> f.ofFace(face, what == 0));
        }
        for (int i = 0; i < f.many(3); i++) {
            int spring = i;
            add(text, "spring", 4, what -> f.ofSpring(spring, what));
        }
        add(text, "pond", 4, f::pond);
        add(text, "owner 0", 2, what -> f.ofOwner(0, what));
        add(text, "owner 1", 2, what -> f.ofOwner(1, what));
        add(text, "mass", 7, f::mass);
        int need = f.town(0);
        f.town(need);
        text.append(" need ").append(need).append(" closed ").append(f.isClosed());
        text.append(" mean ").append(f.meanWarmth()).append(" digest ").append(f.digest());
        return text.toString();
    }

    private static void add(StringBuilder text, String name, int whats, java.util.function.IntUnaryOperator ask) {
        text.append(name);
        for (int what = 0; what < whats; what++) {
            text.append(' ').append(ask.applyAsInt(what));
        }
        text.append("; ");
    }
}
