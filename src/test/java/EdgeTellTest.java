import java.util.function.Consumer;

/**
 * Promises 1 to 10 at their edges: each sentence of the document that names one has a test of its own,
 * which quotes it. A call that is refused is always tested to change nothing.
 */
public final class EdgeTellTest {
    /** Three blocks, and a well in each, the middle one an injector. */
    private static final Consumer<Steamfield> THREE = f -> {
        f.block(10, 0, 100, 100, 50);
        f.block(20, 1, 300, 200, 600);
        f.block(30, 1, 0, 300, 0);
        f.well(0, false);
        f.well(1, true);
        f.well(2, false);
    };

    public static void main(String[] args) {
        withoutBlocks();
        atFirst();
        nothingToldYet();

        volume();
        owner();
        massOfABlock();
        warmth();
        salt();
        warmthIsHeat();
        blockNumbers();
        atMostEightBlocks();
        firstOfSeveralOfBlock();

        oneAndOther();
        bothTheSame();
        open();
        atMostTwelveFaces();
        firstOfSeveralOfFace();

        blockOfAWell();
        atMostSixWells();
        firstOfSeveralOfWell();

        blockOfASpring();
        level();
        promise();
        atMostThreeSprings();
        firstOfSeveralOfSpring();

        wellOfAValve();
        valve();
        valveBefore();
        firstOfSeveralOfValve();

        wellOfATrace();
        tracer();
        tracerThen();
        noMassToTrace();
        firstOfSeveralOfTrace();

        wellToClean();
        cleanWithoutScale();
        cleanAllScale();
        theOwnerHasLess();
        lessThanNothing();
        firstOfSeveralOfClean();

        size();
        sizeBefore();
        runningThen();
        need();
        needBefore();
        Check.end("EdgeTellTest");
    }

    // ---- promise 1

    /** "Creates a field without BLOCKS." */
    private static void withoutBlocks() {
        Steamfield f = new Steamfield();
        Check.dueAll("new: blocks, faces, wells, springs", f::many, 0, 0, 0, 0);
        Check.dueAll("new: share of", owner -> f.ofOwner(owner, 1), 0, 0);
        Check.dueAll("new: mass", f::mass, 0, 0, 0, 0, 0, 0, 0);
        Check.due("new: closed", f.isClosed(), true);
        Check.due("new: mean", f.meanWarmth() == 0.0, true);
        f.run(30);
        Check.due("its steps give nothing", f.many(10), 0);
        Check.dueAll("and no coins", owner -> f.ofOwner(owner, 0), 100, 100);
    }

    /** "0 at first", "20 at first", "RUNNING (at first)", "100 each at first". */
    private static void atFirst() {
        Steamfield f = new Steamfield();
        Check.dueAll("new: many", f::many, 0, 0, 0, 0, 0, 0, 0, 1, 20, 0, 0, 0, 0);
        Check.dueAll("new: pond", f::pond, 0, 0, 0, 0);
        Check.dueAll("new: coins of", owner -> f.ofOwner(owner, 0), 100, 100);
        Check.due("new: need", f.town(1), 0);
        Check.due("new: size", f.turbine(1), 20);
        THREE.accept(f);
        Check.due("new: tracer of a block", f.ofBlock(1, 3), 0);
        Check.dueAll("new: an injector", what -> f.ofWell(1, what), 1, 1, 0, 0, 0, 0, 0, 0, 0);
    }

    /** Nothing told yet: there is no such block, face, well, spring. */
    private static void nothingToldYet() {
        Consumer<Steamfield> none = Edges.NOTHING;
        Edges.index("face of nothing, one", 0, none, (f, v) -> f.face(v, 1, 1));
        Edges.index("face of nothing, other", 0, none, (f, v) -> f.face(1, v, 1));
        Edges.index("well of nothing", 0, none, (f, v) -> f.well(v, v == 0));
        Edges.index("spring of nothing", 0, none, (f, v) -> f.spring(v, 0, 0));
        Edges.index("valve of nothing", 0, none, (f, v) -> f.valve(v, 0));
        Edges.index("trace of nothing", 0, none, (f, v) -> f.trace(v, 1));
        Edges.index("clean of nothing", 0, none, (f, v) -> f.clean(v));
    }

    // ---- promise 2

    /** "if volume is not 10 to 99". */
    private static void volume() {
        Edges.range("volume", 10, 99, Edges.NOTHING, (f, v) -> f.block(v, 0, 500, 100, 50));
        for (int volume : new int[] {10, 99}) {
            Steamfield f = new Steamfield();
            f.block(volume, 1, 500, 100, 50);
            Check.due("share by volume " + volume, f.ofOwner(1, 1), volume);
        }
    }

    /** "owner not 0 or 1". */
    private static void owner() {
        Edges.range("owner", 0, 1, Edges.NOTHING, (f, v) -> f.block(50, v, 500, 100, 50));
        for (int owner = 0; owner <= 1; owner++) {
            Steamfield f = new Steamfield();
            f.block(50, owner, 500, 100, 50);
            Check.due("share of 0, owner " + owner, f.ofOwner(0, 1), owner == 0 ? 50 : 0);
            Check.due("share of 1, owner " + owner, f.ofOwner(1, 1), owner == 1 ? 50 : 0);
        }
    }

    /** "mass not 0 to 2000". */
    private static void massOfABlock() {
        Edges.range("mass", 0, 2000, Edges.NOTHING, (f, v) -> f.block(50, 0, v, 100, 50));
        Steamfield f = new Steamfield();
        f.block(10, 0, 0, 100, 50);
        f.block(10, 0, 2000, 100, 50);
        Check.due("least mass", f.ofBlock(0, 0), 0);
        Check.due("most mass", f.ofBlock(1, 0), 2000);
        Check.due("least pressure", f.ofBlock(0, 4), 0);
        Check.due("most pressure", f.ofBlock(1, 4), 2000);
        Check.due("mass told", f.mass(0), 2000);
    }

    /** "warmth not 0 to 400". */
    private static void warmth() {
        Edges.range("warmth", 0, 400, Edges.NOTHING, (f, v) -> f.block(50, 0, 500, v, 50));
        Steamfield f = new Steamfield();
        f.block(50, 0, 500, 0, 50);
        f.block(50, 0, 500, 400, 50);
        Check.due("least warmth", f.ofBlock(0, 5), 0);
        Check.due("most warmth", f.ofBlock(1, 5), 400);
    }

    /** "or salt not 0 to 9999". */
    private static void salt() {
        Edges.range("salt", 0, 9999, Edges.NOTHING, (f, v) -> f.block(50, 0, 500, 100, v));
        Steamfield f = new Steamfield();
        f.block(50, 0, 500, 100, 0);
        f.block(50, 0, 500, 100, 9999);
        Check.due("least salt", f.ofBlock(0, 2), 0);
        Check.due("most salt", f.ofBlock(1, 2), 9999);
        Check.due("closed with it", f.isClosed(), true);
    }

    /** "HEAT is that times VOLUME and MASS together". */
    private static void warmthIsHeat() {
        Steamfield f = new Steamfield();
        f.block(10, 0, 0, 400, 0);
        f.block(99, 0, 2000, 400, 0);
        f.block(99, 0, 2000, 0, 0);
        f.block(10, 0, 1, 1, 0);
        Check.dueAll("heat of block", block -> f.ofBlock(block, 1), 4000, 839600, 0, 11);
    }

    /** "Returns its number": from 0; one that is refused takes none. */
    private static void blockNumbers() {
        Steamfield f = new Steamfield();
        for (int i = 0; i < 8; i++) {
            int volume = 10 + i;
            Check.dueThrow("a wrong one ahead of block " + i, Check.ARGUMENT, () -> f.block(volume, 2, 5, 5, 5));
            Check.due("number of block " + i, f.block(volume, 0, i, 5, 5), i);
            Check.due("blocks then", f.many(0), i + 1);
        }
        Check.dueAll("mass of block", block -> f.ofBlock(block, 0), 0, 1, 2, 3, 4, 5, 6, 7);
    }

    /** "Throws IllegalStateException if there are 8". */
    private static void atMostEightBlocks() {
        Edges.refused("a ninth block", Check.STATE, Edges.FULL, f -> f.block(10, 0, 0, 0, 0));
        Edges.refused("a ninth block of the most", Check.STATE, Edges.FULL, f -> f.block(99, 1, 2000, 400, 9999));
        Steamfield f = Edges.told(Edges.FULL);
        Check.due("blocks", f.many(0), 8);
    }

    /** Wrong arguments count ahead of "if there are 8". */
    private static void firstOfSeveralOfBlock() {
        int[][] wrong = {{9, 0, 0, 0, 0}, {100, 0, 0, 0, 0}, {10, -1, 0, 0, 0}, {10, 2, 0, 0, 0}, {10, 0, -1, 0, 0},
            {10, 0, 2001, 0, 0}, {10, 0, 0, -1, 0}, {10, 0, 0, 401, 0}, {10, 0, 0, 0, -1}, {10, 0, 0, 0, 10000},
            {9, 2, 2001, 401, 10000}};
        for (int[] w : wrong) {
            Edges.refused("a ninth block of " + java.util.Arrays.toString(w), Check.ARGUMENT, Edges.FULL,
                f -> f.block(w[0], w[1], w[2], w[3], w[4]));
        }
    }

    // ---- promise 3

    /** "if there is no such BLOCK, of both". */
    private static void oneAndOther() {
        Edges.index("one", 3, THREE, (f, v) -> f.face(v, 1, 5));
        Edges.index("other", 3, THREE, (f, v) -> f.face(1, v, 5));
        Edges.refused("both beyond", Check.INDEX, THREE, f -> f.face(3, 4, 5));
        Edges.refused("both beyond, the same", Check.INDEX, THREE, f -> f.face(3, 3, 5));
        Edges.index("one of all there may be", 8, FACELESS, (f, v) -> f.face(v, 3, 5));
        Steamfield f = Edges.told(THREE);
        f.face(2, 0, 5);
        f.run(1);
        Check.due("it is between just these: water comes from 0", f.ofBlock(2, 0) > 0, true);
        Check.due("and none from 1", f.ofBlock(1, 0), 300);
    }

    private static final Consumer<Steamfield> FACELESS = f -> {
        for (int i = 0; i < 8; i++) {
            f.block(20, i % 2, 100 * i, 90, 10);
        }
    };

    /** "if both are the same". */
    private static void bothTheSame() {
        for (int block = 0; block < 3; block++) {
            int both = block;
            Edges.refused("a face from " + both + " to itself", Check.ARGUMENT, THREE, f -> f.face(both, both, 5));
        }
        Steamfield f = Edges.told(THREE);
        Check.due("a face", f.face(0, 1, 5), 0);
        Check.due("one more between the same two", f.face(0, 1, 5), 1);
        Check.due("and the other way", f.face(1, 0, 5), 2);
    }

    /** "or open is not 1 to 9". */
    private static void open() {
        Edges.range("open", 1, 9, THREE, (f, v) -> f.face(0, 1, v));
        Steamfield f = Edges.told(THREE);
        f.face(0, 1, 1);
        f.face(0, 1, 9);
        Check.dueAll("open of face", face -> f.ofFace(face, false), 1, 9);
    }

    /** "Throws IllegalStateException if there are 12"; and their numbers ahead of that. */
    private static void atMostTwelveFaces() {
        Steamfield f = Edges.told(THREE);
        for (int i = 0; i < 12; i++) {
            Check.dueThrow("a wrong one ahead of face " + i, Check.ARGUMENT, () -> f.face(0, 0, 1));
            Check.due("number of face " + i, f.face(i % 3, (i + 1) % 3, 1 + i % 9), i);
            Check.due("faces then", f.many(1), i + 1);
        }
        Check.dueThrow("a face too many", Check.STATE, f, () -> f.face(0, 1, 1));
        Edges.refused("a face too many, among all", Check.STATE, Edges.FULL, full -> full.face(0, 7, 9));
    }

    /** No such block ahead of a wrong argument, and that ahead of "if there are 12". */
    private static void firstOfSeveralOfFace() {
        Edges.refused("no block, wrong open", Check.INDEX, THREE, f -> f.face(0, 3, 10));
        Edges.refused("no block, wrong open too", Check.INDEX, THREE, f -> f.face(-1, 0, 0));
        Edges.refused("no block, the same, wrong open, full", Check.INDEX, Edges.FULL, f -> f.face(8, 8, 0));
        Edges.refused("no block, full", Check.INDEX, Edges.FULL, f -> f.face(0, 8, 1));
        Edges.refused("the same, full", Check.ARGUMENT, Edges.FULL, f -> f.face(7, 7, 1));
        Edges.refused("open 0, full", Check.ARGUMENT, Edges.FULL, f -> f.face(0, 7, 0));
        Edges.refused("open 10, full", Check.ARGUMENT, Edges.FULL, f -> f.face(0, 7, 10));
    }

    // ---- promise 4

    /** "if there is no such BLOCK". */
    private static void blockOfAWell() {
        Edges.index("block of a producer", 3, THREE, (f, v) -> f.well(v, false));
        Edges.index("block of an injector", 3, THREE, (f, v) -> f.well(v, true));
        Edges.index("block of all there may be", 8, FACELESS, (f, v) -> f.well(v, false));
        Steamfield f = Edges.told(THREE);
        Check.dueAll("block of well", well -> f.ofWell(well, 0), 0, 1, 2);
        Check.dueAll("kind of well", well -> f.ofWell(well, 1), 0, 1, 0);
    }

    /** "Throws IllegalStateException if there are 6"; and their numbers ahead of that. */
    private static void atMostSixWells() {
        Steamfield f = Edges.told(FACELESS);
        for (int i = 0; i < 6; i++) {
            Check.dueThrow("a wrong one ahead of well " + i, Check.INDEX, () -> f.well(8, true));
            Check.due("number of well " + i, f.well(7, i % 2 == 0), i);
            Check.due("wells then", f.many(2), i + 1);
        }
        Check.dueThrow("a producer too many", Check.STATE, f, () -> f.well(0, false));
        Edges.refused("a well too many, among all", Check.STATE, Edges.FULL, full -> full.well(7, true));
    }

    /** No such block ahead of "if there are 6". */
    private static void firstOfSeveralOfWell() {
        Edges.refused("no block, full", Check.INDEX, Edges.FULL, f -> f.well(8, true));
        Edges.refused("no block below, full", Check.INDEX, Edges.FULL, f -> f.well(-1, false));
    }

    // ---- promise 5

    /** "if there is no such BLOCK". */
    private static void blockOfASpring() {
        Edges.index("block of a spring", 3, THREE, (f, v) -> f.spring(v, 40, 10));
        Edges.index("block of all there may be", 8, FACELESS, (f, v) -> f.spring(v, 40, 10));
    }

    /** "if level is not 0 to 300". */
    private static void level() {
        Edges.range("level", 0, 300, THREE, (f, v) -> f.spring(0, v, 10));
        Steamfield f = new Steamfield();
        f.block(10, 0, 305, 0, 0);
        f.block(10, 0, 305, 0, 0);
        f.spring(0, 0, 10);
        f.spring(1, 300, 10);
        f.run(1);
        Check.dueAll("flow by the least and the most", spring -> f.ofSpring(spring, 0), 61, 1);
    }

    /** "or promise not 0 to 50". */
    private static void promise() {
        Edges.range("promise", 0, 50, THREE, (f, v) -> f.spring(0, 40, v));
        Steamfield f = Edges.told(THREE);
        f.spring(2, 40, 0);
        f.spring(2, 40, 50);
        f.run(1);
        Check.dueAll("lacks by the least and the most", spring -> f.ofSpring(spring, 1), 0, 50);
    }

    /** "Throws IllegalStateException if there are 3"; and their numbers ahead of that. */
    private static void atMostThreeSprings() {
        Steamfield f = Edges.told(THREE);
        for (int i = 0; i < 3; i++) {
            Check.dueThrow("a wrong one ahead of spring " + i, Check.ARGUMENT, () -> f.spring(0, 301, 10));
            Check.due("number of spring " + i, f.spring(0, 40, 10), i);
            Check.due("springs then", f.many(3), i + 1);
        }
        Check.dueThrow("a spring too many", Check.STATE, f, () -> f.spring(0, 40, 10));
        Edges.refused("a spring too many, among all", Check.STATE, Edges.FULL, full -> full.spring(7, 0, 50));
    }

    /** No such block ahead of a wrong argument, and that ahead of "if there are 3". */
    private static void firstOfSeveralOfSpring() {
        Edges.refused("no block, wrong level", Check.INDEX, THREE, f -> f.spring(3, 301, 10));
        Edges.refused("no block, wrong promise", Check.INDEX, THREE, f -> f.spring(-1, 40, 51));
        Edges.refused("no block, full", Check.INDEX, Edges.FULL, f -> f.spring(8, 40, 10));
        Edges.refused("no block, all wrong, full", Check.INDEX, Edges.FULL, f -> f.spring(8, -1, -1));
        Edges.refused("wrong level, full", Check.ARGUMENT, Edges.FULL, f -> f.spring(0, 301, 10));
        Edges.refused("wrong promise, full", Check.ARGUMENT, Edges.FULL, f -> f.spring(0, 40, -1));
    }

    // ---- promise 6

    /** "if there is no such WELL". */
    private static void wellOfAValve() {
        Edges.index("well of a valve", 3, THREE, (f, v) -> f.valve(v, 5));
        Edges.index("well of all there may be", 6, Edges.FULL, (f, v) -> f.valve(v, 5));
    }

    /** "if valve is not 0 to 9". */
    private static void valve() {
        Edges.range("valve", 0, 9, THREE, (f, v) -> f.valve(0, v));
        Edges.range("valve of an injector", 0, 9, THREE, (f, v) -> f.valve(1, v));
        Steamfield f = Edges.told(THREE);
        f.valve(0, 9);
        Check.dueAll("valve of well", well -> f.ofWell(well, 2), 9, 0, 0);
        f.valve(0, 0);
        f.valve(2, 9);
        Check.dueAll("valve of well", well -> f.ofWell(well, 2), 0, 0, 9);
    }

    /** "Returns that before": 0 at first. */
    private static void valveBefore() {
        Steamfield f = Edges.told(THREE);
        Check.due("valve at first", f.valve(1, 9), 0);
        Check.dueThrow("a wrong one between", Check.ARGUMENT, () -> f.valve(1, 10));
        Check.due("valve before", f.valve(1, 9), 9);
        Check.due("valve before, the same", f.valve(1, 0), 9);
        Check.due("valve before, shut", f.valve(1, 1), 0);
    }

    /** No such well ahead of a wrong argument. */
    private static void firstOfSeveralOfValve() {
        Edges.refused("no well, wrong valve", Check.INDEX, THREE, f -> f.valve(3, 10));
        Edges.refused("no well below, wrong valve", Check.INDEX, THREE, f -> f.valve(-1, -1));
    }

    // ---- promise 7

    /** "if there is no such WELL". */
    private static void wellOfATrace() {
        Edges.index("well of a trace", 2, TWO_OF_MASS, (f, v) -> f.trace(v, 5));
        Edges.index("well of all there may be", 6, Edges.FULL, (f, v) -> f.trace(v, 5));
    }

    /** Two wells in two blocks, which have the least of mass and more. */
    private static final Consumer<Steamfield> TWO_OF_MASS = f -> {
        f.block(99, 1, 1, 100, 50);
        f.block(20, 1, 300, 200, 600);
        f.well(0, false);
        f.well(1, true);
    };

    /** "if tracer is not 1 to 999". */
    private static void tracer() {
        Edges.range("tracer", 1, 999, TWO_OF_MASS, (f, v) -> f.trace(0, v));
    }

    /** "Returns how much that BLOCK has then." */
    private static void tracerThen() {
        Steamfield f = Edges.told(TWO_OF_MASS);
        Check.due("the least", f.trace(0, 1), 1);
        Check.due("the most on top", f.trace(0, 999), 1000);
        Check.due("the other block has none of it", f.trace(1, 999), 999);
        Check.dueAll("tracer of block", block -> f.ofBlock(block, 3), 1000, 999);
        f.well(0, true);
        Check.due("by another well of the block", f.trace(2, 7), 1007);
        Check.due("closed with it", f.isClosed(), true);
    }

    /** "Throws IllegalStateException if the BLOCK has no MASS". */
    private static void noMassToTrace() {
        Edges.refused("trace without mass", Check.STATE, THREE, f -> f.trace(2, 5));
        Edges.refused("trace without mass, the most", Check.STATE, THREE, f -> f.trace(2, 999));
        Edges.taken("trace with 1 of mass", TWO_OF_MASS, f -> f.trace(0, 5));
        Steamfield f = Edges.told(THREE);
        f.face(1, 2, 9);
        f.run(1);
        Check.due("when mass has come", f.trace(2, 5), 5);
    }

    /** No such well ahead of a wrong argument, and that ahead of "if the BLOCK has no MASS". */
    private static void firstOfSeveralOfTrace() {
        Edges.refused("no well, wrong tracer", Check.INDEX, THREE, f -> f.trace(3, 0));
        Edges.refused("no well below, wrong tracer", Check.INDEX, THREE, f -> f.trace(-1, 1000));
        Edges.refused("wrong tracer, no mass", Check.ARGUMENT, THREE, f -> f.trace(2, 0));
        Edges.refused("wrong tracer beyond, no mass", Check.ARGUMENT, THREE, f -> f.trace(2, 1000));
    }

    // ---- promise 8

    /** A well of that owner's block with crust in each step, so scale is 1 more every 5 steps, 9 at most. */
    private static void scaled(Steamfield f, int owner, int steps) {
        f.block(99, owner, 2000, 100, 9999);
        f.block(10, 1 - owner, 0, 0, 0);
        f.well(0, false);
        f.valve(0, 1);
        for (int i = 0; i < steps; i++) {
            f.run(1);
        }
    }

    /** As before with 45 steps, where the owner has so many coins (even below 0) when they have passed. */
    private static Consumer<Steamfield> scaledWithCoins(int owner, int coins) {
        return f -> {
            scaled(f, owner, 43);
            // Springs of the other owner's dry block: for each lack this one pays 1, in two steps.
            int pay = 100 - coins;
            f.spring(1, 300, Math.min(pay / 2, 50));
            f.spring(1, 300, pay / 2 - Math.min(pay / 2, 50));
            f.run(1);
            f.spring(1, 300, pay % 2);
            f.run(1);
        };
    }

    /** "if there is no such WELL". */
    private static void wellToClean() {
        Edges.index("well to clean", 3, THREE, (f, v) -> f.clean(v));
        Edges.index("well of all there may be", 6, Edges.FULL, (f, v) -> f.clean(v));
    }

    /** "no SCALE and no CRUST", of a well that has none, or only crust: "5 COINS for each SCALE" are 0. */
    private static void cleanWithoutScale() {
        Steamfield f = Edges.told(THREE);
        Check.due("a new well", f.clean(0), 0);
        Check.due("an injector", f.clean(1), 0);
        Check.dueAll("coins of", owner -> f.ofOwner(owner, 0), 100, 100);
        Steamfield crusted = Edges.told(c -> scaled(c, 0, 4));
        Check.due("crust", crusted.ofWell(0, 4), 4);
        Check.due("clean of crust", crusted.clean(0), 0);
        Check.due("crust behind it", crusted.ofWell(0, 4), 0);
        Check.due("coins behind it", crusted.ofOwner(0, 0), 100);
    }

    /** "for 5 COINS for each SCALE, of the OWNER of its BLOCK": up to 9 of it. */
    private static void cleanAllScale() {
        for (int owner = 0; owner <= 1; owner++) {
            int of = owner;
            Steamfield f = Edges.told(s -> scaled(s, of, 49));
            Check.due("scale", f.ofWell(0, 3), 9);
            Check.due("crust", f.ofWell(0, 4), 4);
            Check.due("scale before", f.clean(0), 9);
            Check.due("scale behind it", f.ofWell(0, 3), 0);
            Check.due("crust behind it", f.ofWell(0, 4), 0);
            Check.due("coins of the owner", f.ofOwner(owner, 0), 55);
            Check.due("coins of the other one", f.ofOwner(1 - owner, 0), 100);
            Check.due("clean once more", f.clean(0), 0);
            Check.due("for nothing", f.ofOwner(owner, 0), 55);
        }
        Steamfield one = Edges.told(s -> scaled(s, 0, 5));
        Check.due("scale before, the least", one.clean(0), 1);
        Check.due("coins for the least", one.ofOwner(0, 0), 95);
    }

    /** "Throws IllegalStateException if the OWNER has less": less than the price, not the same. */
    private static void theOwnerHasLess() {
        for (int owner = 0; owner <= 1; owner++) {
            Steamfield just = Edges.told(scaledWithCoins(owner, 45));
            Check.due("coins just enough", just.ofOwner(owner, 0), 45);
            Check.due("scale for these", just.clean(0), 9);
            Check.due("coins left", just.ofOwner(owner, 0), 0);
            Check.due("clean for nothing with 0 coins", just.clean(0), 0);

            Steamfield few = Edges.told(scaledWithCoins(owner, 44));
            Check.due("coins, 1 too few", few.ofOwner(owner, 0), 44);
            Check.due("scale", few.ofWell(0, 3), 9);
            Edges.refused("clean with 1 too few", Check.STATE, scaledWithCoins(owner, 44), f -> f.clean(0));
            Edges.refused("clean with 0 coins", Check.STATE, scaledWithCoins(owner, 0), f -> f.clean(0));
        }
    }

    /** The same of a well without scale: its price is 0, and less than that is less. */
    private static void lessThanNothing() {
        Consumer<Steamfield> nothing = f -> {
            scaledWithCoins(0, 0).accept(f);
            f.well(0, true);
        };
        Steamfield f = Edges.told(nothing);
        Check.due("coins", f.ofOwner(0, 0), 0);
        Check.due("clean for nothing", f.clean(1), 0);
        Consumer<Steamfield> less = f2 -> {
            scaledWithCoins(0, -1).accept(f2);
            f2.well(0, true);
        };
        Check.due("coins below 0", Edges.told(less).ofOwner(0, 0), -1);
        Edges.refused("clean for nothing with less", Check.STATE, less, f3 -> f3.clean(1));
    }

    /** No such well ahead of "if the OWNER has less". */
    private static void firstOfSeveralOfClean() {
        Edges.refused("no well, no coins", Check.INDEX, scaledWithCoins(0, -1), f -> f.clean(1));
        Edges.refused("no well below, no coins", Check.INDEX, scaledWithCoins(0, -1), f -> f.clean(-1));
    }

    // ---- promises 9 and 10

    /** "if size is not 0 to 99". */
    private static void size() {
        Edges.range("size", 0, 99, Edges.NOTHING, Steamfield::turbine);
        Edges.range("size, among all", 0, 99, Edges.FULL, Steamfield::turbine);
        Steamfield f = new Steamfield();
        f.turbine(0);
        Check.due("the least size", f.many(8), 0);
        f.turbine(99);
        Check.due("the most size", f.many(8), 99);
    }

    /** "Returns that before": 20 at first. */
    private static void sizeBefore() {
        Steamfield f = new Steamfield();
        Check.due("size at first", f.turbine(99), 20);
        Check.dueThrow("a wrong one between", Check.ARGUMENT, () -> f.turbine(100));
        Check.due("size before", f.turbine(0), 99);
        Check.due("size before, 0", f.turbine(0), 0);
    }

    /** "it is RUNNING then": when it was tripped, and when it was not; by a call that is refused it is not. */
    private static void runningThen() {
        Consumer<Steamfield> tripped = f -> {
            f.block(10, 0, 208, 300, 0);
            f.well(0, false);
            f.valve(0, 5);
            f.turbine(10);
            f.run(1);
        };
        Check.due("tripped", Edges.told(tripped).many(7), 0);
        Edges.refused("size 100 of a tripped one", Check.ARGUMENT, tripped, f -> f.turbine(100));
        Edges.refused("size -1 of a tripped one", Check.ARGUMENT, tripped, f -> f.turbine(-1));
        for (int size : new int[] {0, 10, 99}) {
            Steamfield f = Edges.told(tripped);
            Check.due("size before", f.turbine(size), 10);
            Check.due("running by size " + size, f.many(7), 1);
        }
        Steamfield running = new Steamfield();
        running.turbine(5);
        Check.due("it runs on", running.many(7), 1);
    }

    /** "if need is not 0 to 999". */
    private static void need() {
        Edges.range("need", 0, 999, Edges.NOTHING, Steamfield::town);
        Edges.range("need, among all", 0, 999, Edges.FULL, Steamfield::town);
    }

    /** "Returns that before": 0 at first. */
    private static void needBefore() {
        Steamfield f = new Steamfield();
        Check.due("need at first", f.town(999), 0);
        Check.dueThrow("a wrong one between", Check.ARGUMENT, () -> f.town(1000));
        Check.due("need before", f.town(0), 999);
        Check.due("need before, 0", f.town(1), 0);
    }
}
