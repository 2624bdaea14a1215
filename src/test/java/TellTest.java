/** Promises 1 to 10: a new object, and what is told. */
public final class TellTest {
    public static void main(String[] args) {
        aNewObject();
        blocks();
        blockLimits();
        faces();
        wells();
        springs();
        valves();
        traces();
        cleaning();
        cleaningWithoutCoins();
        turbines();
        towns();
        Check.end("TellTest");
    }

    private static void aNewObject() {
        Steamfield f = new Steamfield();
        long[] many = {0, 0, 0, 0, 0, 0, 0, 1, 20, 0, 0, 0, 0};
        for (int what = 0; what < many.length; what++) {
            Check.due("new: many(" + what + ")", f.many(what), many[what]);
        }
        for (int what = 0; what < 4; what++) {
            Check.due("new: pond(" + what + ")", f.pond(what), 0);
        }
        for (int what = 0; what < 7; what++) {
            Check.due("new: mass(" + what + ")", f.mass(what), 0);
        }
        for (int owner = 0; owner < 2; owner++) {
            Check.due("new: coins of " + owner, f.ofOwner(owner, 0), 100);
            Check.due("new: share of " + owner, f.ofOwner(owner, 1), 0);
        }
        Check.due("new: isClosed()", f.isClosed(), true);
        Check.due("new: need", f.town(0), 0);
        Check.dueThrow("new: block 0", Check.INDEX, f, () -> f.ofBlock(0, 0));
        Steamfield other = new Steamfield();
        other.block(10, 0, 5, 5, 5);
        Check.due("a new object has nothing of another", f.many(0), 0);
    }

    private static void blocks() {
        Steamfield f = new Steamfield();
        Check.due("block 0", f.block(10, 0, 0, 0, 0), 0);
        Check.due("block 1", f.block(99, 1, 2000, 400, 9999), 1);
        Check.due("block 2", f.block(30, 1, 70, 33, 44), 2);
        long[][] due = {{0, 0, 0, 0, 0, 0}, {2000, 839600, 9999, 0, 202, 400}, {70, 3300, 44, 0, 23, 33}};
        for (int block = 0; block < 3; block++) {
            for (int what = 0; what < 6; what++) {
                Check.due("ofBlock(" + block + ", " + what + ")", f.ofBlock(block, what), due[block][what]);
            }
        }
        Check.due("share of 0", f.ofOwner(0, 1), 10);
        Check.due("share of 1", f.ofOwner(1, 1), 129);
        Check.due("told", f.mass(0), 2070);
        for (int block = 3; block < 8; block++) {
            Check.due("block " + block, f.block(20, 0, 1, 1, 1), block);
        }
        Check.dueThrow("a ninth block", Check.STATE, f, () -> f.block(20, 0, 1, 1, 1));
        Check.dueThrow("a ninth block that is wrong", Check.ARGUMENT, f, () -> f.block(9, 0, 1, 1, 1));
        Check.due("blocks", f.many(0), 8);
    }

    private static void blockLimits() {
        Steamfield f = new Steamfield();
        int[][] wrong = {{9, 0, 0, 0, 0}, {100, 0, 0, 0, 0}, {-50, 0, 0, 0, 0}, {10, -1, 0, 0, 0}, {10, 2, 0, 0, 0},
            {10, 0, -1, 0, 0}, {10, 0, 2001, 0, 0}, {10, 0, 0, -1, 0}, {10, 0, 0, 401, 0}, {10, 0, 0, 0, -1},
            {10, 0, 0, 0, 10000}, {Integer.MIN_VALUE, 0, 0, 0, 0}, {Integer.MAX_VALUE, 0, 0, 0, 0}};
        for (int[] w : wrong) {
            Check.dueThrow("block of " + java.util.Arrays.toString(w), Check.ARGUMENT, f,
                () -> f.block(w[0], w[1], w[2], w[3], w[4]));
        }
        Check.due("none was told", f.many(0), 0);
    }

    private static Steamfield twoBlocks() {
        Steamfield f = new Steamfield();
        f.block(10, 0, 100, 100, 50);
        f.block(10, 1, 20, 40, 0);
        return f;
    }

    private static void faces() {
        Steamfield f = twoBlocks();
        int[][] noBlock = {{-1, 0, 1}, {2, 0, 1}, {0, -1, 1}, {0, 2, 1}, {2, 2, 1}, {0, 2, 0}, {Integer.MAX_VALUE, 0, 10}};
        for (int[] w : noBlock) {
            Check.dueThrow("face of " + java.util.Arrays.toString(w), Check.INDEX, f, () -> f.face(w[0], w[1], w[2]));
        }
        int[][] wrong = {{0, 0, 1}, {1, 1, 5}, {0, 1, 0}, {0, 1, 10}, {1, 0, -3}};
        for (int[] w : wrong) {
            Check.dueThrow("face of " + java.util.Arrays.toString(w), Check.ARGUMENT, f, () -> f.face(w[0], w[1], w[2]));
        }
        for (int face = 0; face < 12; face++) {
            Check.due("face " + face, f.face(face % 2, 1 - face % 2, 1 + face % 9), face);
            Check.due("open of " + face, f.ofFace(face, false), 1 + face % 9);
            Check.due("flow of " + face, f.ofFace(face, true), 0);
        }
        Check.due("faces", f.many(1), 12);
        Check.dueThrow("a face too many", Check.STATE, f, () -> f.face(0, 1, 1));
        Check.dueThrow("a face too many, wrong", Check.ARGUMENT, f, () -> f.face(0, 0, 1));
        Check.dueThrow("a face too many, of no block", Check.INDEX, f, () -> f.face(0, 2, 1));
    }

    private static void wells() {
        Steamfield f = twoBlocks();
        Check.dueThrow("well in block -1", Check.INDEX, f, () -> f.well(-1, false));
        Check.dueThrow("well in block 2", Check.INDEX, f, () -> f.well(2, true));
        for (int well = 0; well < 6; well++) {
            Check.due("well " + well, f.well(well % 2, well % 3 == 0), well);
            long[] due = {well % 2, well % 3 == 0 ? 1 : 0, 0, 0, 0, 0, 0, 0, 0};
            for (int what = 0; what < 9; what++) {
                Check.due("ofWell(" + well + ", " + what + ")", f.ofWell(well, what), due[what]);
            }
        }
        Check.due("wells", f.many(2), 6);
        Check.dueThrow("a well too many", Check.STATE, f, () -> f.well(0, false));
        Check.dueThrow("a well too many, in no block", Check.INDEX, f, () -> f.well(2, false));
    }

    private static void springs() {
        Steamfield f = twoBlocks();
        Check.dueThrow("spring of block -1", Check.INDEX, f, () -> f.spring(-1, 0, 0));
        Check.dueThrow("spring of block 2, wrong", Check.INDEX, f, () -> f.spring(2, 301, 0));
        int[][] wrong = {{-1, 0}, {301, 0}, {0, -1}, {0, 51}};
        for (int[] w : wrong) {
            Check.dueThrow("spring of " + java.util.Arrays.toString(w), Check.ARGUMENT, f, () -> f.spring(0, w[0], w[1]));
        }
        Check.due("spring 0", f.spring(0, 300, 50), 0);
        Check.due("spring 1", f.spring(1, 0, 0), 1);
        Check.due("spring 2", f.spring(0, 40, 7), 2);
        Check.due("springs", f.many(3), 3);
        Check.due("a spring has lacked nothing yet", f.ofSpring(0, 3), 0);
        Check.dueThrow("a spring too many", Check.STATE, f, () -> f.spring(0, 0, 0));
        Check.dueThrow("a spring too many, wrong", Check.ARGUMENT, f, () -> f.spring(0, 0, 51));
        f.run(1);
        Check.due("lack of spring 0: its level is never reached", f.ofSpring(0, 1), 50);
        Check.due("flow of spring 1 by level 0", f.ofSpring(1, 0), 4);
    }

    private static void valves() {
        Steamfield f = twoBlocks();
        f.well(0, false);
        f.well(1, true);
        Check.due("valve(0, 9)", f.valve(0, 9), 0);
        Check.due("valve(0, 4)", f.valve(0, 4), 9);
        Check.due("valve(0, 4) again", f.valve(0, 4), 4);
        Check.due("valve(1, 1)", f.valve(1, 1), 0);
        Check.due("valve of 0", f.ofWell(0, 2), 4);
        Check.due("valve of 1", f.ofWell(1, 2), 1);
        Check.dueThrow("valve(2, 0)", Check.INDEX, f, () -> f.valve(2, 0));
        Check.dueThrow("valve(-1, 10)", Check.INDEX, f, () -> f.valve(-1, 10));
        Check.dueThrow("valve(0, 10)", Check.ARGUMENT, f, () -> f.valve(0, 10));
        Check.dueThrow("valve(0, -1)", Check.ARGUMENT, f, () -> f.valve(0, -1));
        Check.due("valve(0, 0)", f.valve(0, 0), 4);
    }

    private static void traces() {
        Steamfield f = new Steamfield();
        f.block(10, 0, 0, 100, 50);
        f.block(10, 0, 1, 100, 50);
        f.well(0, false);
        f.well(1, false);
        f.well(1, true);
        Check.due("trace(1, 999)", f.trace(1, 999), 999);
        Check.due("trace(2, 1)", f.trace(2, 1), 1000);
        Check.due("tracer of block 1", f.ofBlock(1, 3), 1000);
        Check.due("tracer of block 0", f.ofBlock(0, 3), 0);
        Check.due("closed with it", f.isClosed(), true);
        Check.dueThrow("trace(3, 0)", Check.INDEX, f, () -> f.trace(3, 0));
        Check.dueThrow("trace(-1, 5)", Check.INDEX, f, () -> f.trace(-1, 5));
        Check.dueThrow("trace(0, 0)", Check.ARGUMENT, f, () -> f.trace(0, 0));
        Check.dueThrow("trace(1, 1000)", Check.ARGUMENT, f, () -> f.trace(1, 1000));
        Check.dueThrow("trace(1, -1)", Check.ARGUMENT, f, () -> f.trace(1, -1));
        Check.dueThrow("trace(0, 1)", Check.STATE, f, () -> f.trace(0, 1));
    }

    /** A block whose salt makes crust in each step: scale is 1 more every 5 steps. */
    private static Steamfield salty(int owner) {
        Steamfield f = new Steamfield();
        f.block(99, owner, 2000, 100, 9999);
        f.well(0, false);
        f.valve(0, 2);
        return f;
    }

    private static void cleaning() {
        Steamfield f = salty(1);
        f.run(4);
        Check.due("crust of 4 steps", f.ofWell(0, 4), 4);
        Check.due("scale of 4 steps", f.ofWell(0, 3), 0);
        Check.due("clean of crust alone", f.clean(0), 0);
        Check.due("crust behind that", f.ofWell(0, 4), 0);
        Check.due("that costs nothing", f.ofOwner(1, 0), 100);
        f.run(12);
        Check.due("crust of 12 steps", f.ofWell(0, 4), 2);
        Check.due("clean", f.clean(0), 2);
        Check.due("coins of 1 behind it", f.ofOwner(1, 0), 90);
        Check.due("coins of 0 behind it", f.ofOwner(0, 0), 100);
        Check.due("scale behind it", f.ofWell(0, 3), 0);
        Check.due("crust behind it", f.ofWell(0, 4), 0);
        Check.dueThrow("clean(1)", Check.INDEX, f, () -> f.clean(1));
        Check.dueThrow("clean(-1)", Check.INDEX, f, () -> f.clean(-1));
    }

    /** A well with scale 1, where the owner 0 of its block has so many coins. */
    private static Steamfield scaledWithCoins(int coins) {
        Steamfield f = salty(0);
        f.block(10, 1, 0, 0, 0);
        f.run(3);
        // It lacks all in 2 steps, and the owner 0 is the other one: he pays 1 for each.
        f.spring(1, 300, (100 - coins) / 2);
        f.run(2);
        Check.due("coins of 0", f.ofOwner(0, 0), coins);
        Check.due("scale", f.ofWell(0, 3), 1);
        return f;
    }

    private static void cleaningWithoutCoins() {
        Steamfield enough = scaledWithCoins(6);
        Check.due("clean with 6 coins", enough.clean(0), 1);
        Check.due("coins left of 6", enough.ofOwner(0, 0), 1);
        Steamfield few = scaledWithCoins(4);
        Check.dueThrow("clean with 4 coins", Check.STATE, few, () -> few.clean(0));
        Check.dueThrow("clean(7) with 4 coins", Check.INDEX, few, () -> few.clean(7));
        few.run(1);
        Check.due("coins below 0", few.ofOwner(0, 0), 4 - 48);
        few.well(0, true);
        Check.dueThrow("clean for nothing with less than nothing", Check.STATE, few, () -> few.clean(1));

        Steamfield just = salty(0);
        just.block(10, 1, 0, 0, 0);
        just.spring(1, 300, 19);
        just.run(5);
        Check.due("coins that are just enough", just.ofOwner(0, 0), 5);
        Check.due("clean with 5 coins", just.clean(0), 1);
        Check.due("coins left of 5", just.ofOwner(0, 0), 0);
        Check.due("clean for nothing with nothing", just.clean(0), 0);
    }

    private static void turbines() {
        Steamfield f = new Steamfield();
        Check.due("turbine(0)", f.turbine(0), 20);
        Check.due("turbine(99)", f.turbine(99), 0);
        Check.due("turbine(7)", f.turbine(7), 99);
        Check.due("size", f.many(8), 7);
        Check.dueThrow("turbine(-1)", Check.ARGUMENT, f, () -> f.turbine(-1));
        Check.dueThrow("turbine(100)", Check.ARGUMENT, f, () -> f.turbine(100));
        f.block(10, 0, 200, 300, 0);
        f.well(0, false);
        f.valve(0, 5);
        f.run(1);
        Check.due("tripped by 20 of steam", f.many(7), 0);
        Check.dueThrow("turbine(100) when tripped", Check.ARGUMENT, f, () -> f.turbine(100));
        Check.due("turbine(8)", f.turbine(8), 7);
        Check.due("running then", f.many(7), 1);
    }

    private static void towns() {
        Steamfield f = new Steamfield();
        Check.due("town(999)", f.town(999), 0);
        Check.due("town(0)", f.town(0), 999);
        Check.due("town(12)", f.town(12), 0);
        Check.dueThrow("town(-1)", Check.ARGUMENT, f, () -> f.town(-1));
        Check.dueThrow("town(1000)", Check.ARGUMENT, f, () -> f.town(1000));
        Check.due("town(5)", f.town(5), 12);
    }
}
