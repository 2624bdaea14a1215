/** Promises 1 to 10 with ordinary inputs: a new object, and what is told. Their edges are in EdgeTellTest. */
public final class TellTest {
    public static void main(String[] args) {
        aNewObject();
        blocks();
        faces();
        wells();
        springs();
        valves();
        traces();
        cleaning();
        cleaningWithFewCoins();
        turbines();
        towns();
        Check.end("TellTest");
    }

    private static void aNewObject() {
        String ahead = Edges.seen(new Steamfield());
        Steamfield other = twoBlocks();
        other.well(0, false);
        other.valve(0, 3);
        other.trace(0, 7);
        other.town(40);
        other.run(3);
        Check.due("a new object has nothing of another", Edges.seen(new Steamfield()), ahead);
        Check.due("none of its blocks", new Steamfield().many(0), 0);
        Check.due("none of its steps", new Steamfield().many(4), 0);
    }

    private static void blocks() {
        Steamfield f = new Steamfield();
        Check.due("block 0", f.block(12, 0, 30, 20, 9), 0);
        Check.due("block 1", f.block(45, 1, 900, 210, 800), 1);
        Check.due("block 2", f.block(30, 1, 70, 33, 44), 2);
        Check.dueAll("block 0", what -> f.ofBlock(0, what), 30, 840, 9, 0, 25, 20);
        Check.dueAll("block 1", what -> f.ofBlock(1, what), 900, 198450, 800, 0, 200, 210);
        Check.dueAll("block 2", what -> f.ofBlock(2, what), 70, 3300, 44, 0, 23, 33);
        Check.dueAll("share of", owner -> f.ofOwner(owner, 1), 12, 75);
        Check.due("told", f.mass(0), 1000);
        Check.due("in blocks", f.mass(1), 1000);
    }

    private static Steamfield twoBlocks() {
        Steamfield f = new Steamfield();
        f.block(10, 0, 100, 100, 50);
        f.block(10, 1, 20, 40, 0);
        return f;
    }

    private static void faces() {
        Steamfield f = twoBlocks();
        for (int face = 0; face < 5; face++) {
            Check.due("face " + face, f.face(face % 2, 1 - face % 2, 2 + face), face);
            Check.due("open of " + face, f.ofFace(face, false), 2 + face);
            Check.due("flow of " + face, f.ofFace(face, true), 0);
        }
        Check.due("faces", f.many(1), 5);
    }

    private static void wells() {
        Steamfield f = twoBlocks();
        for (int well = 0; well < 4; well++) {
            Check.due("well " + well, f.well(well % 2, well % 3 == 0), well);
        }
        for (int i = 0; i < 4; i++) {
            int well = i;
            int kind = well % 3 == 0 ? 1 : 0;
            Check.dueAll("well " + well, what -> f.ofWell(well, what), well % 2, kind, 0, 0, 0, 0, 0, 0, 0);
        }
        Check.due("wells", f.many(2), 4);
    }

    private static void springs() {
        Steamfield f = twoBlocks();
        Check.due("spring 0", f.spring(0, 90, 21), 0);
        Check.due("spring 1", f.spring(1, 5, 4), 1);
        Check.due("springs", f.many(3), 2);
        Check.due("a spring has lacked nothing yet", f.ofSpring(0, 3), 0);
        f.run(1);
        // (100 - 90) / 5 and (20 - 5) / 5.
        Check.dueAll("spring 0", what -> f.ofSpring(0, what), 2, 19, 2, 19);
        Check.dueAll("spring 1", what -> f.ofSpring(1, what), 3, 1, 3, 1);
    }

    private static void valves() {
        Steamfield f = twoBlocks();
        f.well(0, false);
        f.well(1, true);
        Check.due("valve(0, 7)", f.valve(0, 7), 0);
        Check.due("valve(0, 4)", f.valve(0, 4), 7);
        Check.due("valve(0, 4) again", f.valve(0, 4), 4);
        Check.due("valve(1, 2)", f.valve(1, 2), 0);
        Check.dueAll("valve of", well -> f.ofWell(well, 2), 4, 2);
    }

    private static void traces() {
        Steamfield f = twoBlocks();
        f.well(0, false);
        f.well(1, false);
        f.well(1, true);
        Check.due("trace(1, 300)", f.trace(1, 300), 300);
        Check.due("trace(2, 20)", f.trace(2, 20), 320);
        Check.dueAll("tracer of block", block -> f.ofBlock(block, 3), 0, 320);
        Check.due("closed with it", f.isClosed(), true);
    }

    /** A block whose salt makes crust in each step: scale is 1 more every 5 steps. */
    private static Steamfield salty(int owner) {
        Steamfield f = new Steamfield();
        f.block(99, owner, 2000, 100, 9999);
        f.well(0, false);
        f.valve(0, 2);
        return f;
    }

    private static void cleaning() {
        Steamfield f = salty(1);
        f.run(12);
        Check.due("scale of 12 steps", f.ofWell(0, 3), 2);
        Check.due("crust of 12 steps", f.ofWell(0, 4), 2);
        Check.due("clean", f.clean(0), 2);
        Check.due("coins of 1 behind it", f.ofOwner(1, 0), 90);
        Check.due("coins of 0 behind it", f.ofOwner(0, 0), 100);
        Check.due("scale behind it", f.ofWell(0, 3), 0);
        Check.due("crust behind it", f.ofWell(0, 4), 0);
        Check.due("clean again", f.clean(0), 0);
        Check.due("for nothing", f.ofOwner(1, 0), 90);
    }

    /** A well with scale 1, where the owner 0 of its block has so many coins. */
    private static Steamfield scaledWithCoins(int coins) {
        Steamfield f = salty(0);
        f.block(10, 1, 0, 0, 0);
        f.run(3);
        // It lacks all in 2 steps, and the owner 0 is the other one: he pays 1 for each.
        f.spring(1, 300, (100 - coins) / 2);
        f.run(2);
        Check.due("coins of 0", f.ofOwner(0, 0), coins);
        Check.due("scale", f.ofWell(0, 3), 1);
        return f;
    }

    private static void cleaningWithFewCoins() {
        Steamfield enough = scaledWithCoins(6);
        Check.due("clean with 6 coins", enough.clean(0), 1);
        Check.due("coins left of 6", enough.ofOwner(0, 0), 1);
        Steamfield few = scaledWithCoins(4);
        Check.dueThrow("clean with 4 coins", Check.STATE, few, () -> few.clean(0));
    }

    private static void turbines() {
        Steamfield f = new Steamfield();
        Check.due("turbine(30)", f.turbine(30), 20);
        Check.due("turbine(7)", f.turbine(7), 30);
        Check.due("size", f.many(8), 7);
        f.block(10, 0, 200, 300, 0);
        f.well(0, false);
        f.valve(0, 5);
        f.run(1);
        Check.due("tripped by 20 of steam", f.many(7), 0);
        Check.due("turbine(8)", f.turbine(8), 7);
        Check.due("running then", f.many(7), 1);
    }

    private static void towns() {
        Steamfield f = new Steamfield();
        Check.due("town(120)", f.town(120), 0);
        Check.due("town(12)", f.town(12), 120);
        Check.due("town(5)", f.town(5), 12);
    }
}
