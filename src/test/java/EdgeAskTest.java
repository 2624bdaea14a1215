import java.lang.reflect.Field;
import java.util.function.Consumer;

/**
 * Promises 12 to 26 at their edges: each sentence of the document that names one has a test of its own,
 * which quotes it.
 */
public final class EdgeAskTest {
    public static void main(String[] args) throws Exception {
        nothingToldYet();
        blockAsked();
        whatOfABlock();
        wellAsked();
        whatOfAWell();
        aheadOfAStep();
        springAsked();
        whatOfASpring();
        faceAsked();
        belowNothingTheOtherWay();
        whatOfThePond();
        ownerAsked();
        whatOfAnOwner();
        whatOfAllMass();
        whetherItIsClosed();
        whatOfMany();
        theLightOfTheNextStep();
        nothingWithoutAny();
        notCut();

        stepsOfWouldGive();
        whatRunWouldTell();
        wellOfColdIn();
        warmthOfColdIn();
        nowOrLess();
        notInThirty();
        springAndWellOfCausedBy();
        stepsOfCausedBy();
        moreOrLess();
        ifItWasShut();
        stepsOfBestValves();
        bestOfNothing();
        eachOneOfFour();
        tenTimesThatOfProducers();
        theGreatestBelowNothing();
        lessThreeTimesLacks();
        ofSeveralTheSmallest();
        digestOfNothing();
        digestOfAFew();
        digestInItsOrder();
        Check.end("EdgeAskTest");
    }

    /** One of each kind, where all is worked out by hand behind one step. */
    private static final Consumer<Steamfield> KNOWN = f -> {
        f.block(10, 0, 200, 300, 1000);
        f.block(99, 1, 0, 0, 0);
        f.block(20, 1, 40, 50, 0);
        f.face(2, 1, 3);
        f.well(0, false);
        f.well(1, true);
        f.spring(0, 100, 20);
        f.valve(0, 5);
        f.valve(1, 1);
        f.trace(0, 400);
        f.turbine(15);
        f.town(450);
        f.run(1);
    };

    private static void nothingToldYet() {
        Consumer<Steamfield> none = Edges.NOTHING;
        Edges.index("block of nothing", 0, none, (f, v) -> f.ofBlock(v, 0));
        Edges.index("well of nothing", 0, none, (f, v) -> f.ofWell(v, 0));
        Edges.index("spring of nothing", 0, none, (f, v) -> f.ofSpring(v, 0));
        Edges.index("flow of no face", 0, none, (f, v) -> f.ofFace(v, true));
        Edges.index("open of no face", 0, none, (f, v) -> f.ofFace(v, false));
        Edges.index("cold in nothing", 0, none, (f, v) -> f.coldIn(v, 100));
        Edges.index("caused to nothing", 0, none, (f, v) -> f.causedBy(v, 0, 1));
    }

    // ---- promise 12

    /** "if there is no such BLOCK", ahead of a wrong what. */
    private static void blockAsked() {
        Edges.index("block", 3, KNOWN, (f, v) -> f.ofBlock(v, 0));
        Edges.index("block of all there may be", 8, Edges.FULL, (f, v) -> f.ofBlock(v, 5));
        Edges.refused("no block, wrong what", Check.INDEX, KNOWN, f -> f.ofBlock(3, 6));
        Edges.refused("no block below, wrong what", Check.INDEX, KNOWN, f -> f.ofBlock(-1, -1));
    }

    /** "if what is not 0 to 5". */
    private static void whatOfABlock() {
        Edges.range("what of a block", 0, 5, KNOWN, (f, v) -> f.ofBlock(0, v));
        Steamfield f = Edges.told(KNOWN);
        Check.dueAll("block 0", what -> f.ofBlock(0, what), 148, 47400, 740, 296, 148, 300);
        Check.dueAll("block 1", what -> f.ofBlock(1, what), 7, 607, 40, 16, 0, 5);
        Check.dueAll("block 2", what -> f.ofBlock(2, what), 37, 2703, 0, 0, 18, 47);
    }

    // ---- promise 13

    /** "if there is no such WELL", ahead of a wrong what. */
    private static void wellAsked() {
        Edges.index("well", 2, KNOWN, (f, v) -> f.ofWell(v, 0));
        Edges.index("well of all there may be", 6, Edges.FULL, (f, v) -> f.ofWell(v, 8));
        Edges.refused("no well, wrong what", Check.INDEX, KNOWN, f -> f.ofWell(2, 9));
        Edges.refused("no well below, wrong what", Check.INDEX, KNOWN, f -> f.ofWell(-1, -1));
    }

    /** "if what is not 0 to 8"; "its FLOW of the last STEP", not ever. */
    private static void whatOfAWell() {
        Edges.range("what of a well", 0, 8, KNOWN, (f, v) -> f.ofWell(0, v));
        Steamfield f = Edges.told(KNOWN);
        Check.dueAll("producer", what -> f.ofWell(0, what), 0, 0, 5, 0, 1, 40, 20, 80, 40);
        Check.dueAll("injector", what -> f.ofWell(1, what), 1, 1, 1, 0, 0, 4, 0, 16, 4);
        f.valve(0, 0);
        f.valve(1, 0);
        f.run(1);
        Check.dueAll("producer, shut", what -> f.ofWell(0, what), 0, 0, 0, 0, 1, 0, 0, 0, 40);
        Check.dueAll("injector, shut", what -> f.ofWell(1, what), 1, 1, 0, 0, 0, 0, 0, 0, 4);
    }

    /** "Returns that (0 ahead of a STEP)": also of a well, face and spring told behind the steps of others. */
    private static void aheadOfAStep() {
        Steamfield f = Edges.told(KNOWN);
        f.well(0, false);
        f.valve(2, 9);
        f.spring(0, 0, 50);
        f.face(0, 1, 9);
        Check.dueAll("a new well", what -> f.ofWell(2, what), 0, 0, 9, 0, 0, 0, 0, 0, 0);
        Check.dueAll("a new spring", what -> f.ofSpring(1, what), 0, 0, 0, 0);
        Check.due("a new face", f.ofFace(1, true), 0);
        Check.due("all lacks are as before", f.many(12), 8);
        f.run(1);
        Check.due("the well behind a step", f.ofWell(2, 5) > 0, true);
        Check.due("the spring behind a step", f.ofSpring(1, 0) > 0, true);
        Check.due("the face behind a step", f.ofFace(1, true) > 0, true);
    }

    // ---- promises 14 and 15

    /** "if there is no such SPRING", ahead of a wrong what. */
    private static void springAsked() {
        Edges.index("spring", 1, KNOWN, (f, v) -> f.ofSpring(v, 0));
        Edges.index("spring of all there may be", 3, Edges.FULL, (f, v) -> f.ofSpring(v, 3));
        Edges.refused("no spring, wrong what", Check.INDEX, KNOWN, f -> f.ofSpring(1, 4));
        Edges.refused("no spring below, wrong what", Check.INDEX, KNOWN, f -> f.ofSpring(-1, -1));
    }

    /** "if what is not 0 to 3"; "of the last STEP" and "ever". */
    private static void whatOfASpring() {
        Edges.range("what of a spring", 0, 3, KNOWN, (f, v) -> f.ofSpring(0, v));
        Steamfield f = Edges.told(KNOWN);
        Check.dueAll("spring", what -> f.ofSpring(0, what), 12, 8, 12, 8);
        f.valve(0, 0);
        f.run(1);
        // (148 - 100) / 5 = 9.
        Check.dueAll("spring behind two steps", what -> f.ofSpring(0, what), 9, 11, 21, 19);
        Check.due("all that springs lacked", f.many(12), 19);
    }

    /** "if there is no such FACE", of both kinds. */
    private static void faceAsked() {
        Edges.index("flow of a face", 1, KNOWN, (f, v) -> f.ofFace(v, true));
        Edges.index("open of a face", 1, KNOWN, (f, v) -> f.ofFace(v, false));
        Edges.index("face of all there may be", 12, Edges.FULL, (f, v) -> f.ofFace(v, true));
    }

    /** "(below 0: the other way)"; "of the last STEP". */
    private static void belowNothingTheOtherWay() {
        Steamfield f = Edges.told(KNOWN);
        Check.due("flow from its first block", f.ofFace(0, true), 3);
        Check.due("open", f.ofFace(0, false), 3);
        f.run(1);
        // (18 - 0) * 3 / 20 = 2, not 3 + 2.
        Check.due("flow of the last step", f.ofFace(0, true), 2);
        Steamfield g = new Steamfield();
        g.block(10, 0, 0, 0, 0);
        g.block(10, 0, 40, 0, 0);
        g.face(0, 1, 2);
        g.run(1);
        Check.due("flow to its first block", g.ofFace(0, true), -4);
        Check.due("mass of that", g.ofBlock(0, 0), 4);
    }

    // ---- promises 16 to 18

    /** "if what is not 0 to 3". */
    private static void whatOfThePond() {
        Edges.range("what of the pond", 0, 3, Edges.NOTHING, Steamfield::pond);
        Edges.range("what of the pond then", 0, 3, KNOWN, Steamfield::pond);
        Steamfield f = Edges.told(KNOWN);
        Check.dueAll("pond", f::pond, 16, 1240, 160, 64);
    }

    /** "if owner is not 0 or 1", ahead of a wrong what. */
    private static void ownerAsked() {
        Edges.index("owner", 2, Edges.NOTHING, (f, v) -> f.ofOwner(v, 0));
        Edges.index("owner then", 2, KNOWN, (f, v) -> f.ofOwner(v, 1));
        Edges.refused("no owner, wrong what", Check.INDEX, KNOWN, f -> f.ofOwner(2, 2));
        Edges.refused("no owner below, wrong what", Check.INDEX, KNOWN, f -> f.ofOwner(-1, -1));
    }

    /** "if what is not 0 or 1". */
    private static void whatOfAnOwner() {
        Edges.range("what of an owner", 0, 1, KNOWN, (f, v) -> f.ofOwner(0, v));
        Edges.range("what of the other owner", 0, 1, KNOWN, (f, v) -> f.ofOwner(1, v));
        Steamfield f = Edges.told(KNOWN);
        // 94 coins, of which 94 * 10 / 129 = 7 go to the owner 0, and 8 lacks.
        Check.dueAll("owner 0", what -> f.ofOwner(0, what), 100 + 7 - 16, 10);
        Check.dueAll("owner 1", what -> f.ofOwner(1, what), 100 + 87 - 8, 119);
        Steamfield full = Edges.told(Edges.FULL);
        Check.dueAll("shares of all there may be, of", owner -> full.ofOwner(owner, 1), 160, 200);
    }

    /** "if what is not 0 to 6". */
    private static void whatOfAllMass() {
        Edges.range("what of mass", 0, 6, Edges.NOTHING, Steamfield::mass);
        Edges.range("what of mass then", 0, 6, KNOWN, Steamfield::mass);
        Steamfield f = Edges.told(KNOWN);
        Check.dueAll("mass", f::mass, 240, 192, 16, 15, 5, 0, 12);
    }

    // ---- promises 19 to 21

    /**
     * "Returns whether MASS, SALT and TRACER that were told are what 3 says". No calls make them differ, so
     * 1 of each is put into a block or taken from it by hand here.
     */
    private static void whetherItIsClosed() throws Exception {
        Check.due("closed without blocks", new Steamfield().isClosed(), true);
        Check.due("closed behind a step", Edges.told(KNOWN).isClosed(), true);
        for (String part : new String[] {"mass", "salt", "tracer"}) {
            Steamfield f = Edges.told(KNOWN);
            Object block = java.lang.reflect.Array.get(hidden(hidden(f, "land"), "blocks"), 1);
            Object water = hidden(block, "water");
            Field field = water.getClass().getDeclaredField(part);
            field.setAccessible(true);
            int amount = field.getInt(water);
            for (int more : new int[] {1, -1, 0}) {
                field.setInt(water, amount + more);
                Check.due("closed by " + more + " of " + part, f.isClosed(), more == 0);
                Check.due("digest of that", f.digest(), AskTest.digestOf(f));
            }
        }
        Steamfield later = Edges.told(KNOWN);
        later.run(30);
        Check.due("closed behind 30 more", later.isClosed(), true);
    }

    private static Object hidden(Object of, String name) throws Exception {
        Field field = of.getClass().getDeclaredField(name);
        field.setAccessible(true);
        return field.get(of);
    }

    /** "if what is not 0 to 12". */
    private static void whatOfMany() {
        Edges.range("what of many", 0, 12, Edges.NOTHING, Steamfield::many);
        Edges.range("what of many then", 0, 12, KNOWN, Steamfield::many);
        Steamfield f = Edges.told(KNOWN);
        Check.dueAll("many", f::many, 3, 1, 2, 1, 1, 0, 0, 1, 15, 30, 30, 450, 8);
        f.valve(0, 0);
        f.town(1);
        f.run(1);
        Check.dueAll("many behind two steps", f::many, 3, 1, 2, 1, 2, 0, 0, 1, 15, 0, 30, 1, 19);
        Steamfield full = Edges.told(Edges.FULL);
        Check.dueAll("many of all there may be", full::many, 8, 12, 6, 3, 2);
    }

    /** "5 the LIGHT that the next STEP would have": that of the last one was told without its own shock. */
    private static void theLightOfTheNextStep() {
        Steamfield f = new Steamfield();
        f.block(10, 0, 2000, 50, 0);
        f.block(10, 0, 0, 0, 0);
        f.well(0, false);
        f.well(1, true);
        f.valve(0, 9);
        f.valve(1, 6);
        f.run(1);
        Check.due("put in by the green light of this step", f.ofWell(1, 5), 24);
        Check.due("its shock", f.many(6), 24);
        Check.due("the light of the next one", f.many(5), 1);
    }

    /** "0 without any". */
    private static void nothingWithoutAny() {
        Steamfield f = new Steamfield();
        Check.due("mean without any", f.meanWarmth() == 0.0, true);
        f.run(30);
        Check.due("mean without any, behind steps", f.meanWarmth() == 0.0, true);
        f.block(10, 0, 0, 0, 0);
        Check.due("mean of a cold one", f.meanWarmth() == 0.0, true);
    }

    /** "by VOLUME ..., not cut": but each WARMTH itself is rounded down. */
    private static void notCut() {
        Check.due("mean behind a step", Edges.told(KNOWN).meanWarmth() == 4435.0 / 129.0, true);
        Steamfield f = new Steamfield();
        for (int i = 0; i < 8; i++) {
            f.block(99, 0, 2000, i == 0 ? 399 : 400, 0);
        }
        Check.due("mean of all there may be", f.meanWarmth() == (399.0 + 7 * 400.0) / 8.0, true);
    }

    // ---- promise 22

    /** "if steps is not 1 to 30". */
    private static void stepsOfWouldGive() {
        Edges.range("steps of nothing", 1, 30, Edges.NOTHING, Steamfield::wouldGive);
        Edges.range("steps", 1, 30, KNOWN, Steamfield::wouldGive);
    }

    /** "the POWER that run() would tell": the least, the most, and when the turbine is tripped. */
    private static void whatRunWouldTell() {
        Check.due("of nothing", new Steamfield().wouldGive(30), 0);
        for (int steps : new int[] {1, 30}) {
            Steamfield f = Edges.told(KNOWN);
            int would = f.wouldGive(steps);
            Check.due("it would give some", would > 0, true);
            Check.due("run of " + steps, f.run(steps), would);
        }
        Steamfield f = Edges.told(KNOWN);
        f.valve(0, 9);
        f.turbine(1);
        Check.due("trips in the first of these", f.wouldGive(30), 2);
        Check.due("but runs as nothing is changed", f.many(7), 1);
        f.run(1);
        Check.due("tripped it would give nothing", f.wouldGive(30), 0);
        f.turbine(10);
        Check.due("told anew it would give some", f.wouldGive(1), 20);
        Steamfield tripped = Edges.told(KNOWN);
        tripped.valve(0, 9);
        tripped.turbine(1);
        tripped.run(1);
        Check.due("tripped, as first asked", tripped.wouldGive(30), 0);
    }

    // ---- promise 23

    /** "if there is no such WELL", ahead of a wrong warmth. */
    private static void wellOfColdIn() {
        Edges.index("well of cold", 2, KNOWN, (f, v) -> f.coldIn(v, 100));
        Edges.index("well of cold of all there may be", 6, Edges.FULL, (f, v) -> f.coldIn(v, 100));
        Edges.refused("no well, wrong warmth", Check.INDEX, KNOWN, f -> f.coldIn(2, 401));
        Edges.refused("no well below, wrong warmth", Check.INDEX, KNOWN, f -> f.coldIn(-1, -1));
    }

    /** "if warmth is not 0 to 400". */
    private static void warmthOfColdIn() {
        Edges.range("warmth", 0, 400, KNOWN, (f, v) -> f.coldIn(0, v));
        Steamfield f = new Steamfield();
        f.block(10, 0, 0, 0, 0);
        f.block(10, 0, 0, 400, 0);
        f.well(0, false);
        f.well(1, false);
        Check.dueAll("as cold as the least, well", well -> f.coldIn(well, 0), 0, -1);
        Check.dueAll("as cold as the most, well", well -> f.coldIn(well, 400), 0, 0);
    }

    /** A dry block that a cold one cools through a face. */
    private static final Consumer<Steamfield> COOLING = f -> {
        f.block(10, 0, 0, 200, 0);
        f.block(99, 0, 0, 0, 0);
        f.face(0, 1, 1);
        f.well(0, true);
    };

    /** "would be that or less (0, if it is now)". */
    private static void nowOrLess() {
        Steamfield f = Edges.told(COOLING);
        // 200 of the 2000 of heat go in the first step, 178 in the second one: it is 180, then 162.
        int[][] warmthDue = {{400, 0}, {201, 0}, {200, 0}, {199, 1}, {181, 1}, {180, 1}, {179, 2}};
        for (int[] row : warmthDue) {
            Check.due("as cold as " + row[0], f.coldIn(0, row[0]), row[1]);
        }
        Check.due("it is as warm as before", f.ofBlock(0, 5), 200);
        // A block that is not connected stays as it is.
        Steamfield lone = new Steamfield();
        lone.block(10, 0, 500, 77, 0);
        lone.well(0, false);
        Check.due("of the same warmth", lone.coldIn(0, 77), 0);
        Check.due("never", lone.coldIn(0, 76), -1);
        Check.due("without a town", pondFor(0).coldIn(1, 89), -1);
        Check.due("with a town that cools the pond", pondFor(999).coldIn(1, 89), coldBySteps(pondFor(999), 1, 89));
    }

    /** A pond as warm as 100, which a town with that need cools, for an injector into a block that is colder. */
    private static Steamfield pondFor(int need) {
        Steamfield f = new Steamfield();
        f.block(10, 0, 2000, 100, 0);
        f.block(10, 0, 10, 90, 0);
        f.well(0, false);
        f.well(1, true);
        f.valve(0, 9);
        f.run(1);
        f.valve(0, 0);
        f.valve(1, 1);
        f.town(need);
        return f;
    }

    private static int coldBySteps(Steamfield f, int well, int warmth) {
        int steps = 0;
        while (steps <= 30 && f.ofBlock(f.ofWell(well, 0), 5) > warmth) {
            f.run(1);
            steps++;
        }
        Check.due("it is so cold in some steps up to 30", steps > 0 && steps <= 30, true);
        return steps;
    }

    /** The same so slowly that it goes on behind 30 steps. */
    private static final Consumer<Steamfield> COOLING_SLOWLY = f -> {
        f.block(99, 0, 0, 400, 0);
        f.block(99, 0, 0, 0, 0);
        f.face(0, 1, 1);
        f.well(0, true);
    };

    /** "NONE, if not in 30": in 30 it counts still. */
    private static void notInThirty() {
        Steamfield f = Edges.told(COOLING_SLOWLY);
        f.run(29);
        int inTwentyNine = f.ofBlock(0, 5);
        f.run(1);
        int inThirty = f.ofBlock(0, 5);
        f.run(1);
        int inThirtyOne = f.ofBlock(0, 5);
        Check.due("it cools in the step 30", inThirty < inTwentyNine, true);
        Check.due("and in the step 31", inThirtyOne < inThirty, true);
        Steamfield asked = Edges.told(COOLING_SLOWLY);
        Check.due("in 29", asked.coldIn(0, inTwentyNine), 29);
        Check.due("in 30", asked.coldIn(0, inTwentyNine - 1), 30);
        Check.due("in 30 just", asked.coldIn(0, inThirty), 30);
        Check.due("not in 30", asked.coldIn(0, inThirty - 1), -1);
        Check.due("not in 30, but in 31", asked.coldIn(0, inThirtyOne), -1);
    }

    // ---- promise 24

    /** "if there is no such SPRING, or WELL", ahead of wrong steps. */
    private static void springAndWellOfCausedBy() {
        Edges.index("spring", 1, KNOWN, (f, v) -> f.causedBy(v, 0, 5));
        Edges.index("well", 2, KNOWN, (f, v) -> f.causedBy(0, v, 5));
        Edges.index("spring of all there may be", 3, Edges.FULL, (f, v) -> f.causedBy(v, 5, 5));
        Edges.index("well of all there may be", 6, Edges.FULL, (f, v) -> f.causedBy(2, v, 5));
        Edges.refused("no spring, wrong steps", Check.INDEX, KNOWN, f -> f.causedBy(1, 0, 0));
        Edges.refused("no well, wrong steps", Check.INDEX, KNOWN, f -> f.causedBy(0, 2, 31));
        Edges.refused("neither, wrong steps", Check.INDEX, KNOWN, f -> f.causedBy(-1, -1, -1));
        Consumer<Steamfield> noWell = f -> {
            f.block(10, 0, 100, 50, 0);
            f.spring(0, 0, 10);
        };
        Edges.refused("a spring without wells", Check.INDEX, noWell, f -> f.causedBy(0, 0, 1));
        Consumer<Steamfield> noSpring = f -> {
            f.block(10, 0, 100, 50, 0);
            f.well(0, false);
        };
        Edges.refused("a well without springs", Check.INDEX, noSpring, f -> f.causedBy(0, 0, 1));
    }

    /** "if steps is not 1 to 30". */
    private static void stepsOfCausedBy() {
        Edges.range("steps", 1, 30, KNOWN, (f, v) -> f.causedBy(0, 0, v));
    }

    /** "how much more the SPRING would flow in these STEPS together ... (below 0: less)". */
    private static void moreOrLess() {
        Steamfield f = new Steamfield();
        f.block(10, 0, 200, 50, 0);
        f.block(10, 0, 0, 0, 0);
        f.block(10, 0, 0, 0, 0);
        f.well(0, false);
        f.well(1, true);
        f.well(2, true);
        f.spring(0, 0, 0);
        f.spring(1, 0, 0);
        f.valve(0, 5);
        f.valve(1, 5);
        // The first spring: 200 / 5 = 40 for 160 / 5 = 32; the second one 0 for 20 / 5 = 4.
        Check.due("more by a producer", f.causedBy(0, 0, 1), 8);
        Check.due("less by an injector", f.causedBy(1, 1, 1), -4);
        Check.due("less without the producer, as the pond is empty", f.causedBy(1, 0, 1), -4);
        Check.due("nothing by an injector elsewhere", f.causedBy(0, 1, 1), 0);
        Check.due("nothing by a shut one", f.causedBy(1, 2, 30), 0);
        // 40 and 32 for 32 and 24: the well takes (128 - 40) * 5 / 20 = 22 then, 106 / 5 = 21.
        Check.due("in two steps together", f.causedBy(0, 0, 2), 40 + 32 - 32 - 21);
        f.run(1);
        Check.due("in one step behind one", f.causedBy(0, 0, 1), 128 / 5 - 21);
    }

    /** "if the VALVE of the WELL was 0 for these": it is what it was when that is asked. */
    private static void ifItWasShut() {
        Steamfield f = Edges.told(KNOWN);
        f.causedBy(0, 0, 30);
        f.causedBy(0, 1, 30);
        Check.dueAll("valve of well", well -> f.ofWell(well, 2), 5, 1);
        Check.due("all is as it was", Edges.seen(f), Edges.seen(Edges.told(KNOWN)));
    }

    // ---- promise 25

    /** "if steps is not 1 to 12". */
    private static void stepsOfBestValves() {
        Edges.range("steps of nothing", 1, 12, Edges.NOTHING, Steamfield::bestValves);
        Edges.range("steps", 1, 12, KNOWN, Steamfield::bestValves);
    }

    /** Without wells, and with wells of one kind alone: the smallest number of what is the same. */
    private static void bestOfNothing() {
        Check.due("best of nothing", new Steamfield().bestValves(1), 0);
        Check.due("best of nothing, 12 steps", new Steamfield().bestValves(12), 0);
        Steamfield injector = new Steamfield();
        injector.block(10, 0, 200, 300, 0);
        injector.well(0, true);
        Check.due("best of an injector without a pond", injector.bestValves(12), 0);
        Steamfield producer = new Steamfield();
        producer.block(10, 0, 200, 300, 0);
        producer.well(0, false);
        producer.turbine(99);
        Check.due("best of a producer", producer.bestValves(1), 90);
        Steamfield cold = new Steamfield();
        cold.block(10, 0, 200, 100, 0);
        cold.well(0, false);
        Check.due("best of a cold producer", cold.bestValves(1), 0);
    }

    /**
     * A hot block with a producer (12, 24 or 25 of steam by 3, 6 and 9) for a turbine of that size; and an injector
     * into the dry block of a spring, which flows 2, 4 or 7 by 3, 6 and 9. A cold block has filled the pond for it:
     * its producer gives no steam.
     */
    private static Steamfield both(int size, int promise) {
        Steamfield f = new Steamfield();
        f.block(10, 0, 1960, 50, 0);
        f.well(0, false);
        f.valve(0, 9);
        f.run(1);
        f.block(10, 0, 0, 0, 0);
        f.well(1, true);
        f.spring(1, 0, promise);
        f.block(10, 0, 200, 300, 0);
        f.well(2, false);
        f.turbine(size);
        return f;
    }

    /** "each one of 0, 3, 6, 9": each is the best once, of both kinds. */
    private static void eachOneOfFour() {
        int[][] sizeBest = {{0, 0}, {12, 30}, {24, 60}, {25, 90}, {99, 90}};
        for (int[] row : sizeBest) {
            Check.due("best by size " + row[0], both(row[0], 0).bestValves(1), row[1]);
        }
        int[][] promiseBest = {{0, 0}, {1, 3}, {2, 3}, {3, 6}, {4, 6}, {5, 9}, {7, 9}, {50, 9}};
        for (int[] row : promiseBest) {
            Check.due("best by promise " + row[0], both(0, row[0]).bestValves(1), row[1]);
        }
    }

    /** "10 times that of PRODUCERS and that of INJECTORS". */
    private static void tenTimesThatOfProducers() {
        int[][] sizePromiseBest = {{12, 4, 36}, {24, 2, 63}, {99, 50, 99}, {12, 7, 39}, {99, 1, 93}};
        for (int[] row : sizePromiseBest) {
            Check.due("best by " + row[0] + ", " + row[1], both(row[0], row[1]).bestValves(1), row[2]);
        }
    }

    /** "the greatest POWER ..., less 3 times what all SPRINGS LACK": also if all is below 0. */
    private static void theGreatestBelowNothing() {
        // By 9 the spring lacks 10 more of its 40; the 50 of flow give 2 of steam, or 37.
        for (int[] row : new int[][] {{120, 0}, {400, 90}}) {
            Steamfield f = new Steamfield();
            f.block(10, 0, 200, row[0], 0);
            f.block(10, 0, 0, 0, 0);
            f.well(0, false);
            f.spring(0, 0, 40);
            f.spring(1, 0, 50);
            f.spring(1, 0, 50);
            f.turbine(99);
            Check.due("best by warmth " + row[0] + ", all below 0", f.bestValves(1), row[1]);
        }
    }

    /** "less 3 times what all SPRINGS LACK": by 3 it gives steam for 5 of lack more, 14 of power against 15, or 16. */
    private static void lessThreeTimesLacks() {
        // By 6 it is 28 or 32 against 30, by 9 the same.
        for (int[] row : new int[][] {{217, 0}, {234, 60}}) {
            Steamfield f = new Steamfield();
            f.block(10, 0, 200, row[0], 0);
            f.well(0, false);
            f.spring(0, 0, 40);
            f.turbine(99);
            Check.due("best by warmth " + row[0], f.bestValves(1), row[1]);
        }
    }

    /** "of several the smallest number": where more of each kind is worth the same. */
    private static void ofSeveralTheSmallest() {
        Check.due("of the same power and lacks", both(12, 2).bestValves(1), 33);
        Check.due("of no power and lacks", both(0, 0).bestValves(12), 0);
        Steamfield f = Edges.told(KNOWN);
        f.bestValves(12);
        Check.due("all is as it was", Edges.seen(f), Edges.seen(Edges.told(KNOWN)));
    }

    // ---- promise 26

    /** "A number d starts with 58177": worked out by hand, and it has wrapped around. */
    private static void digestOfNothing() {
        Check.due("digest of nothing", new Steamfield().digest(), -8640506924048327797L);
    }

    /** Two dry blocks, whose wells and spring would give nothing: worked out by hand. */
    private static void digestOfAFew() {
        Steamfield f = new Steamfield();
        f.block(10, 0, 0, 50, 7);
        f.block(20, 1, 0, 200, 0);
        f.well(0, true);
        f.well(1, false);
        f.spring(0, 0, 0);
        f.valve(0, 3);
        f.valve(1, 9);
        Check.due("digest of a few", f.digest(), 5604174012352661062L);
        f.turbine(21);
        Check.due("digest of another size", f.digest() == 5604174012352661062L, false);
    }

    /** Each part has its place: of fields that have all, by one call after the other. */
    private static void digestInItsOrder() {
        Steamfield f = Edges.told(KNOWN);
        Steamfield full = Edges.told(Edges.FULL);
        for (int i = 0; i < 10; i++) {
            Check.due("digest of one of each", f.digest(), AskTest.digestOf(f));
            Check.due("digest of all there may be", full.digest(), AskTest.digestOf(full));
            f.run(1);
            full.run(1);
        }
        // "coldIn() of 100": a lone block of 100 is so cold now, one of 101 never.
        Steamfield cold = new Steamfield();
        for (int i = 0; i < 3; i++) {
            cold.block(10, 0, 0, 99 + i, 0);
            cold.well(i, true);
        }
        Check.due("digest of cold ones", cold.digest(), AskTest.digestOf(cold));
        Check.dueAll("cold in", well -> cold.coldIn(well, 100), 0, 0, -1);
    }
}
