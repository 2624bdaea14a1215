import java.lang.reflect.Field;

/**
 * The terms, the parts (1) to (8) of a step and promise 11 at their edges: each sentence of the document
 * that names one has a test of its own, which quotes it.
 */
public final class EdgeStepTest {
    public static void main(String[] args) throws Exception {
        pressureRoundedDown();
        warmthRoundedDown();
        aQuarterOfItsMass();
        noMassToTake();
        carriedRoundedDown();

        lightsByShocks();
        theLastFourSteps();
        withoutThisOne();

        flowRoundedDown();
        ofTheSamePressure();
        fromTheWarmerOne();
        warmthsByNow();
        fiftyOrMore();
        nineAtMost();

        lessForty();
        lessThreeTimesScale();
        timesValve();
        aQuarterAtMost();
        steamByWarmth();
        flowAtMost();
        brineBelowHundred();
        warmthAheadOfThat();
        moreThanThirtyTimesBrine();
        withFiveItIsNone();
        scaleNineAtMost();

        upToSize();
        moreThanTwiceSize();
        sizeAboveNothing();
        allIfItIsTripped();

        needAndNoMore();
        whatThePondHasAbove();
        aboveFiveHundred();
        spilledByWhatThereIs();
        spilledAheadOfInjectors();

        fourTimesValve();
        aHalfOrNone();
        noMoreThanThePond();
        byFiveOrMore();
        byThisAlone();

        lessLevel();
        whatItLacks();

        eachWholeHundred();
        asOneSum();
        theRestToOwnerOne();
        twoForEachLack();
        alsoIfLessThanNothing();

        massIsKept();
        stepsOfARun();
        powerOfAllTogether();
        nowIsOneMore();
        atMost512Calls();
        Check.end("EdgeStepTest");
    }

    // ---- 1: blocks, and what is taken

    /** "Its PRESSURE is 10 times MASS, divided by VOLUME", rounded down. */
    private static void pressureRoundedDown() {
        int[][] volumeMassDue = {{99, 0, 0}, {99, 9, 0}, {99, 10, 1}, {99, 2000, 202}, {10, 1, 1}, {10, 2000, 2000},
            {30, 2, 0}, {30, 3, 1}, {30, 5, 1}, {30, 6, 2}};
        for (int[] row : volumeMassDue) {
            Steamfield f = new Steamfield();
            f.block(row[0], 0, row[1], 0, 0);
            Check.due("pressure of " + row[1] + " in " + row[0], f.ofBlock(0, 4), row[2]);
        }
    }

    /** "its WARMTH is HEAT, divided by VOLUME and MASS together", rounded down, and without MASS too. */
    private static void warmthRoundedDown() {
        // Of 20 of heat 2 * 9 go through the face; then 1 * 9 of these come back.
        Steamfield f = new Steamfield();
        f.block(10, 0, 0, 2, 0);
        f.block(10, 0, 0, 0, 0);
        f.face(0, 1, 9);
        f.run(1);
        Check.dueAll("heat of block", block -> f.ofBlock(block, 1), 2, 18);
        Check.dueAll("warmth of block", block -> f.ofBlock(block, 5), 0, 1);
        f.run(1);
        Check.dueAll("heat of block then", block -> f.ofBlock(block, 1), 11, 9);
        Check.dueAll("warmth of block then", block -> f.ofBlock(block, 5), 1, 0);
    }

    /** "(no more than a quarter of its MASS)", rounded down: by a face, as OPEN 9 would take more. */
    private static void aQuarterOfItsMass() {
        int[][] massDue = {{0, 0}, {1, 0}, {2, 0}, {3, 0}, {4, 1}, {7, 1}, {8, 2}, {11, 2}, {12, 3}, {2000, 500}};
        for (int[] row : massDue) {
            Steamfield f = new Steamfield();
            f.block(10, 0, row[0], 0, 0);
            f.block(99, 0, 0, 0, 0);
            f.face(0, 1, 9);
            f.run(1);
            Check.due("a quarter of " + row[0], f.ofFace(0, true), row[1]);
            Check.due("left of " + row[0], f.ofBlock(0, 0), row[0] - row[1]);
        }
    }

    /** Of no MASS nothing is taken: SALT and HEAT stay. */
    private static void noMassToTake() {
        Steamfield f = new Steamfield();
        f.block(10, 0, 0, 50, 77);
        f.well(0, false);
        f.valve(0, 9);
        f.spring(0, 0, 0);
        f.run(3);
        Check.dueAll("block without mass", what -> f.ofBlock(0, what), 0, 500, 77, 0, 0, 50);
        Check.dueAll("pond of it", f::pond, 0, 0, 0, 0);
    }

    /** "m times its SALT, divided by its MASS; TRACER likewise", rounded down. */
    private static void carriedRoundedDown() {
        // A face takes 20 of 100.
        int[][] amountDue = {{4, 0}, {5, 1}, {54, 10}, {55, 11}};
        for (int[] row : amountDue) {
            Steamfield f = new Steamfield();
            f.block(10, 0, 100, 0, row[0]);
            f.block(10, 0, 0, 0, 0);
            f.face(0, 1, 4);
            f.well(0, true);
            f.trace(0, row[0]);
            f.run(1);
            Check.due("flow", f.ofFace(0, true), 20);
            Check.due("salt with it of " + row[0], f.ofBlock(1, 2), row[1]);
            Check.due("tracer with it of " + row[0], f.ofBlock(1, 3), row[1]);
            Check.due("salt left of " + row[0], f.ofBlock(0, 2), row[0] - row[1]);
            Check.due("tracer left of " + row[0], f.ofBlock(0, 3), row[0] - row[1]);
        }
    }

    // ---- 2 (1): the light

    /** A pond with 500 of mass, and an injector with valve 9 (36 of mass) into a dry block of that volume. */
    private static Steamfield injecting(int volume) {
        Steamfield f = new Steamfield();
        f.block(10, 0, 2000, 50, 4000);
        f.block(volume, 1, 0, 0, 0);
        f.well(0, false);
        f.well(1, true);
        f.valve(0, 9);
        f.run(1);
        f.valve(0, 0);
        f.valve(1, 9);
        return f;
    }

    /** "0 GREEN below 10, 1 YELLOW below 25, 2 RED". */
    private static void lightsByShocks() {
        Steamfield none = new Steamfield();
        Check.due("light at first", none.many(5), 0);
        // 360 divided by the volume.
        int[][] volumeShockLight = {{99, 0, 0}, {40, 9, 0}, {36, 10, 1}, {15, 24, 1}, {14, 25, 2}, {10, 36, 2}};
        for (int[] row : volumeShockLight) {
            Steamfield f = injecting(row[0]);
            f.run(1);
            Check.due("shock in volume " + row[0], f.many(6), row[1]);
            Check.due("light behind it", f.many(5), row[2]);
            f.run(1);
            Check.due("put in by this light", f.ofWell(1, 5), row[2] == 0 ? 36 : row[2] == 1 ? 18 : 0);
        }
    }

    /** "by the SHOCKS of the last 4 STEPS together": by the fourth, and no more by the fifth. */
    private static void theLastFourSteps() {
        for (int ahead = 0; ahead < 5; ahead++) {
            lightsBehindOneShock(ahead);
        }
        // Two of 9 together are 18, three of them 27.
        Steamfield sum = injecting(40);
        sum.run(1);
        Check.due("light of 9", sum.many(5), 0);
        sum.run(1);
        Check.due("light of 9 and 9", sum.many(5), 1);
        Check.due("shock of the last step alone", sum.many(6), 9);
        sum.valve(1, 0);
        sum.run(2);
        Check.due("light of 9, 9, 0, 0", sum.many(5), 1);
        sum.run(1);
        Check.due("light of 9, 0, 0, 0", sum.many(5), 0);
    }

    private static void lightsBehindOneShock(int stepsAhead) {
        Steamfield f = injecting(10);
        f.valve(1, 0);
        for (int i = 0; i < stepsAhead; i++) {
            f.run(1);
        }
        f.valve(1, 9);
        f.run(1);
        Check.due("shock", f.many(6), 36);
        Check.due("light of the next step", f.many(5), 2);
        f.valve(1, 0);
        long[] lightBehind = {2, 2, 2, 0, 0};
        for (int i = 0; i < lightBehind.length; i++) {
            f.run(1);
            Check.due("shock " + (i + 1) + " steps behind", f.many(6), 0);
            Check.due("light " + (i + 1) + " steps behind", f.many(5), lightBehind[i]);
        }
    }

    /** "(without this one)": two injectors in one step do not dim their own light. */
    private static void withoutThisOne() {
        Steamfield f = injecting(10);
        f.well(1, true);
        f.valve(2, 9);
        f.run(1);
        Check.due("put in by the first", f.ofWell(1, 5), 36);
        Check.due("put in by the second", f.ofWell(2, 5), 36);
        Check.due("shock of both", f.many(6), 72);
        Check.due("light behind it", f.many(5), 2);
    }

    // ---- 2 (2): faces

    private static Steamfield twoBlocks(int massOne, int massOther, int open) {
        Steamfield f = new Steamfield();
        f.block(10, 0, massOne, 0, 0);
        f.block(10, 1, massOther, 0, 0);
        f.face(0, 1, open);
        f.run(1);
        return f;
    }

    /** "the difference of the PRESSURES times OPEN, divided by 20", rounded down in both directions. */
    private static void flowRoundedDown() {
        int[][] differenceOpenDue = {{1, 9, 0}, {2, 9, 0}, {3, 9, 1}, {19, 1, 0}, {20, 1, 1}, {39, 1, 1}, {40, 1, 2},
            {44, 5, 11}, {47, 5, 11}, {48, 5, 12}};
        for (int[] row : differenceOpenDue) {
            Check.due("flow by " + row[0], twoBlocks(100 + row[0], 100, row[1]).ofFace(0, true), row[2]);
            Check.due("flow by -" + row[0], twoBlocks(100, 100 + row[0], row[1]).ofFace(0, true), -row[2]);
        }
    }

    /** "(of the same the first one of the FACE)": the difference is 0, and nothing is taken. */
    private static void ofTheSamePressure() {
        for (int mass : new int[] {0, 100, 2000}) {
            Steamfield f = twoBlocks(mass, mass, 9);
            Check.due("flow of the same " + mass, f.ofFace(0, true), 0);
            Check.due("mass of the first", f.ofBlock(0, 0), mass);
            Check.due("mass of the other", f.ofBlock(1, 0), mass);
            Check.due("open", f.ofFace(0, false), 9);
        }
        // 9 and 0 in a volume of 99 have the same pressure.
        Steamfield f = new Steamfield();
        f.block(99, 0, 9, 0, 0);
        f.block(99, 1, 0, 0, 0);
        f.face(0, 1, 9);
        f.run(1);
        Check.due("flow of the same, rounded", f.ofFace(0, true), 0);
    }

    /** "from the warmer to the colder one": each way, and nothing of the same. */
    private static void fromTheWarmerOne() {
        int[][] warmthsOpenDue = {{70, 70, 9, 0}, {71, 70, 9, -9}, {70, 71, 9, 9}, {71, 70, 1, -1}, {400, 0, 9, -3600},
            {0, 400, 9, 3600}};
        for (int[] row : warmthsOpenDue) {
            Steamfield f = new Steamfield();
            f.block(10, 0, 100, row[0], 0);
            f.block(20, 0, 200, row[1], 0);
            f.face(0, 1, row[2]);
            f.run(1);
            String what = " by " + row[0] + " and " + row[1];
            Check.due("flow" + what, f.ofFace(0, true), 0);
            Check.due("heat of the first" + what, f.ofBlock(0, 1), row[0] * 110 + row[3]);
            Check.due("heat of the other" + what, f.ofBlock(1, 1), row[1] * 220 - row[3]);
        }
    }

    /** "the difference of their WARMTHS (by now)": by what the taking left. */
    private static void warmthsByNow() {
        Steamfield f = new Steamfield();
        f.block(10, 0, 40, 100, 0);
        f.block(10, 0, 0, 0, 0);
        f.face(0, 1, 1);
        f.run(1);
        // 2 with 200 of heat make the other one as warm as 200 / 12 = 16: 84 go on their own, not 100.
        Check.due("flow", f.ofFace(0, true), 2);
        Check.dueAll("heat of block", block -> f.ofBlock(block, 1), 5000 - 200 - 84, 284);
    }

    /** "if the difference of PRESSURES was 50 or more ahead of the TAKING". */
    private static void fiftyOrMore() {
        int[][] differenceDue = {{0, 4}, {48, 4}, {49, 4}, {50, 5}, {51, 5}, {1900, 5}};
        for (int[] row : differenceDue) {
            Check.due("open by " + row[0], twoBlocks(100 + row[0], 100, 4).ofFace(0, false), row[1]);
            Check.due("open by -" + row[0], twoBlocks(100, 100 + row[0], 4).ofFace(0, false), row[1]);
        }
        // Behind the taking it is less than 50, and it opens once, not by each 50.
        Steamfield f = twoBlocks(150, 100, 8);
        Check.due("difference behind the taking", f.ofBlock(0, 4) - f.ofBlock(1, 4), 50 - 2 * 20);
        Check.due("open", f.ofFace(0, false), 9);
    }

    /** "is OPEN by 1 more, 9 at most". */
    private static void nineAtMost() {
        Check.due("open from 1", twoBlocks(2000, 0, 1).ofFace(0, false), 2);
        Check.due("open from 8", twoBlocks(2000, 0, 8).ofFace(0, false), 9);
        Check.due("open from 9", twoBlocks(2000, 0, 9).ofFace(0, false), 9);
        Steamfield f = new Steamfield();
        f.block(10, 0, 2000, 0, 0);
        f.block(99, 1, 0, 0, 0);
        f.face(0, 1, 1);
        for (int step = 1; step <= 5; step++) {
            f.run(1);
            Check.due("open behind step " + step, f.ofFace(0, false), 1 + step);
        }
    }

    // ---- 2 (3): producers

    /** A producer with that valve in a block of volume 10, behind one step. */
    private static Steamfield produced(int mass, int warmth, int salt, int valve) {
        Steamfield f = new Steamfield();
        f.block(10, 0, mass, warmth, salt);
        f.well(0, false);
        f.valve(0, valve);
        f.turbine(99);
        f.run(1);
        return f;
    }

    /** "its BLOCK's PRESSURE less 40 ... 0 at least". */
    private static void lessForty() {
        int[][] pressureDue = {{0, 0}, {39, 0}, {40, 0}, {42, 0}, {43, 1}, {44, 1}, {45, 2}};
        for (int[] row : pressureDue) {
            Check.due("flow by pressure " + row[0], produced(row[0], 100, 0, 9).ofWell(0, 5), row[1]);
        }
    }

    /** "less 3 times SCALE, 0 at least". */
    private static void lessThreeTimesScale() {
        Steamfield f = new Steamfield();
        f.block(10, 0, 100, 100, 9999);
        f.well(0, false);
        f.valve(0, 9);
        long[] flows = {25, 15, 9, 4, 3};
        for (int i = 0; i < flows.length; i++) {
            f.run(1);
            Check.due("flow " + i, f.ofWell(0, 5), flows[i]);
        }
        Check.due("scale", f.ofWell(0, 3), 1);
        Check.due("pressure", f.ofBlock(0, 4), 44);
        f.run(1);
        Check.due("flow by 44 less 43", f.ofWell(0, 5), 0);
        f.clean(0);
        f.run(1);
        Check.due("flow by 44 less 40", f.ofWell(0, 5), 1);
        for (int mass = 60; mass <= 400; mass++) {
            byScale(mass);
        }
    }

    /** The same by any pressure and scale that come. */
    private static void byScale(int mass) {
        Steamfield f = new Steamfield();
        f.block(10, 0, mass, 100, 9999);
        f.well(0, false);
        f.valve(0, 9);
        for (int step = 0; step < 30; step++) {
            int drive = f.ofBlock(0, 4) - 40 - 3 * f.ofWell(0, 3);
            int due = drive <= 0 ? 0 : Math.min(drive * 9 / 20, f.ofBlock(0, 0) / 4);
            f.run(1);
            Check.due("flow of " + mass + " in step " + step, f.ofWell(0, 5), due);
        }
    }

    /** "times VALVE, divided by 20": none by 0, rounded down. */
    private static void timesValve() {
        int[][] massValveDue = {{2000, 0, 0}, {59, 1, 0}, {60, 1, 1}, {79, 1, 1}, {80, 1, 2}, {60, 9, 9}, {62, 9, 9},
            {63, 9, 10}};
        for (int[] row : massValveDue) {
            Steamfield f = produced(row[0], 100, 0, row[1]);
            Check.due("flow of " + row[0] + " by valve " + row[1], f.ofWell(0, 5), row[2]);
        }
    }

    /** "a quarter of the MASS at most". */
    private static void aQuarterAtMost() {
        int[][] massDue = {{91, 22}, {92, 23}, {93, 23}, {94, 23}, {95, 23}, {96, 24}, {2000, 500}};
        for (int[] row : massDue) {
            Check.due("flow of " + row[0], produced(row[0], 100, 0, 9).ofWell(0, 5), row[1]);
        }
    }

    /** "STEAM is FLOW times (WARMTH less 100, 0 at least), divided by 400", rounded down: of a FLOW of 40. */
    private static void steamByWarmth() {
        int[][] warmthDue = {{0, 0}, {99, 0}, {100, 0}, {109, 0}, {110, 1}, {119, 1}, {120, 2}, {399, 29}, {400, 30}};
        for (int[] row : warmthDue) {
            Steamfield f = produced(200, row[0], 0, 5);
            Check.due("flow", f.ofWell(0, 5), 40);
            Check.due("steam by warmth " + row[0], f.ofWell(0, 6), row[1]);
            Check.due("brine by warmth " + row[0], f.pond(0), 40 - row[1]);
        }
    }

    /** "FLOW at most". No calls make a block as warm as 500, so its heat is put in by hand here. */
    private static void flowAtMost() throws Exception {
        int[][] warmthDue = {{490, 39}, {499, 39}, {500, 40}, {501, 40}, {520, 40}, {900, 40}};
        for (int[] row : warmthDue) {
            Steamfield f = new Steamfield();
            f.block(10, 0, 200, 400, 5);
            f.well(0, false);
            f.valve(0, 5);
            f.turbine(99);
            setHeat(f, row[0] * 210);
            f.run(1);
            Check.due("steam by warmth " + row[0], f.ofWell(0, 6), row[1]);
            Check.due("brine by warmth " + row[0], f.pond(0), 40 - row[1]);
            // All salt of the flow goes to the pond, and 10 is more than 30 times no brine.
            Check.due("salt of it", f.pond(2), 1);
            Check.due("crust of it", f.ofWell(0, 4), row[1] == 40 ? 1 : 0);
            Check.due("closed", f.isClosed(), true);
        }
    }

    private static void setHeat(Steamfield f, int heat) throws Exception {
        Object blocks = hidden(hidden(f, "land"), "blocks");
        Object water = hidden(java.lang.reflect.Array.get(blocks, 0), "water");
        Field field = water.getClass().getDeclaredField("heat");
        field.setAccessible(true);
        field.setInt(water, heat);
    }

    private static Object hidden(Object of, String name) throws Exception {
        Field field = of.getClass().getDeclaredField(name);
        field.setAccessible(true);
        return field.get(of);
    }

    /** "HEAT: BRINE times that WARMTH, or times 100, if that is less". */
    private static void brineBelowHundred() {
        int[][] warmthDue = {{0, 0}, {1, 40}, {99, 3960}, {100, 4000}, {101, 4000}, {110, 3900}, {400, 1000}};
        for (int[] row : warmthDue) {
            Check.due("heat of brine by " + row[0], produced(200, row[0], 0, 5).pond(1), row[1]);
        }
    }

    /** "With the WARMTH that the BLOCK had ahead of that": the taking makes it warmer here. */
    private static void warmthAheadOfThat() {
        Steamfield f = new Steamfield();
        f.block(10, 0, 200, 109, 0);
        f.block(10, 0, 200, 129, 0);
        f.face(0, 1, 9);
        f.well(0, false);
        f.valve(0, 5);
        f.run(1);
        // 180 of heat come through the face: 23070 / 210 = 109 ahead, (23070 - 40 * 109) / 170 = 110 behind.
        Check.due("warmth behind it", f.ofBlock(0, 5), 110);
        Check.due("steam by 109", f.ofWell(0, 6), 0);
        Check.due("brine", f.pond(0), 40);
        Check.due("heat left", f.ofBlock(0, 1), 23070 - 40 * 109);
    }

    /** "if 10 times the SALT of the FLOW is more than 30 times BRINE": more, not the same; and of the brine alone. */
    private static void moreThanThirtyTimesBrine() {
        // Of 40 of flow with warmth 300 the half is brine: 60 of salt are the same, 61 more.
        int[][] saltDue = {{0, 0}, {299, 0}, {300, 0}, {304, 0}, {305, 1}, {9999, 1}};
        for (int[] row : saltDue) {
            Steamfield f = produced(200, 300, row[0], 5);
            Check.due("brine", f.pond(0), 20);
            Check.due("salt of it", f.pond(2), row[0] / 5);
            Check.due("crust by " + row[0], f.ofWell(0, 4), row[1]);
        }
        Check.due("crust of no flow", produced(40, 300, 9999, 9).ofWell(0, 4), 0);
    }

    /** A well with crust in each step, that flows to the end. */
    private static Steamfield crusting() {
        Steamfield f = new Steamfield();
        f.block(99, 0, 2000, 100, 9999);
        f.well(0, false);
        f.valve(0, 1);
        return f;
    }

    /** "with 5 it is 0, and SCALE 1 more". */
    private static void withFiveItIsNone() {
        Steamfield f = crusting();
        long[] crusts = {1, 2, 3, 4, 0, 1};
        long[] scales = {0, 0, 0, 0, 1, 1};
        for (int i = 0; i < crusts.length; i++) {
            f.run(1);
            Check.due("crust of step " + (i + 1), f.ofWell(0, 4), crusts[i]);
            Check.due("scale of step " + (i + 1), f.ofWell(0, 3), scales[i]);
        }
        f.valve(0, 0);
        f.run(3);
        Check.due("crust stays without flow", f.ofWell(0, 4), 1);
    }

    /** "9 at most". */
    private static void scaleNineAtMost() {
        Steamfield f = crusting();
        f.run(30);
        f.run(14);
        Check.due("scale of 44 steps", f.ofWell(0, 3), 8);
        Check.due("crust of 44 steps", f.ofWell(0, 4), 4);
        f.run(1);
        Check.due("scale of 45 steps", f.ofWell(0, 3), 9);
        Check.due("crust of 45 steps", f.ofWell(0, 4), 0);
        f.run(4);
        Check.due("crust of 49 steps", f.ofWell(0, 4), 4);
        f.run(1);
        Check.due("scale of 50 steps", f.ofWell(0, 3), 9);
        Check.due("crust of 50 steps", f.ofWell(0, 4), 0);
        Check.due("it flows still", f.ofWell(0, 5) > 0, true);
    }

    // ---- 2 (4): the turbine

    /** 21 of steam in one step, with a turbine of that size. */
    private static Steamfield steamOf21(int size) {
        Steamfield f = new Steamfield();
        f.block(10, 0, 208, 300, 0);
        f.well(0, false);
        f.valve(0, 5);
        f.turbine(size);
        return f;
    }

    private static void turbineIs(int size, long used, long vented, long running) {
        Steamfield f = steamOf21(size);
        Check.due("power of size " + size, f.run(1), 2 * used);
        Check.due("steam", f.ofWell(0, 6), 21);
        Check.due("used by size " + size, f.mass(3), used);
        Check.due("vented by size " + size, f.mass(4), vented);
        Check.due("running by size " + size, f.many(7), running);
    }

    /** "uses up the STEAM of all WELLS, up to SIZE"; "The rest of the STEAM ... is VENTED". */
    private static void upToSize() {
        turbineIs(20, 20, 1, 1);
        turbineIs(21, 21, 0, 1);
        turbineIs(22, 21, 0, 1);
        turbineIs(99, 21, 0, 1);
    }

    /** "More than 2 times SIZE of STEAM TRIPS it, behind that": more, not the same, and SIZE is used up first. */
    private static void moreThanTwiceSize() {
        turbineIs(11, 11, 10, 1);
        turbineIs(10, 10, 11, 0);
        turbineIs(1, 1, 20, 0);
        // 20 of steam are just 2 times 10.
        Steamfield same = new Steamfield();
        same.block(10, 0, 200, 300, 0);
        same.well(0, false);
        same.valve(0, 5);
        same.turbine(10);
        same.run(1);
        Check.due("steam", same.ofWell(0, 6), 20);
        Check.due("running by just 2 times size", same.many(7), 1);
        // The steam of all wells together: 21 and 15.
        Steamfield two = steamOf21(17);
        two.block(10, 0, 160, 300, 0);
        two.well(1, false);
        two.valve(1, 5);
        two.run(1);
        Check.due("steam of the second", two.ofWell(1, 6), 15);
        Check.due("tripped by both", two.many(7), 0);
        Check.due("power of both", two.many(9), 34);
    }

    /** "if SIZE is above 0". */
    private static void sizeAboveNothing() {
        turbineIs(0, 0, 21, 1);
        Steamfield f = steamOf21(0);
        f.run(1);
        f.turbine(99);
        Check.due("it takes all when it has a size", f.run(1), 2 * f.ofWell(0, 6));
    }

    /** "(all, if it is TRIPPED)"; it stays so until it is told anew. */
    private static void allIfItIsTripped() {
        Steamfield f = steamOf21(10);
        f.run(1);
        Check.due("vented by then", f.mass(4), 11);
        Check.due("power when tripped", f.run(1), 0);
        long steam = f.ofWell(0, 6);
        Check.due("steam then", steam > 0 && steam <= 20, true);
        Check.due("all of it is vented", f.mass(4), 11 + steam);
        f.valve(0, 0);
        f.run(2);
        Check.due("it stays tripped without steam", f.many(7), 0);
        f.turbine(20);
        f.valve(0, 5);
        Check.due("told anew it takes all", f.run(1), 2 * f.ofWell(0, 6));
    }

    // ---- 2 (5): the town and the pond

    /** A step with 40 of brine, that warm, and a town with that need. */
    private static Steamfield warming(int warmth, int need) {
        Steamfield f = new Steamfield();
        f.block(10, 0, 200, warmth, 0);
        f.well(0, false);
        f.valve(0, 5);
        f.town(need);
        f.run(1);
        return f;
    }

    /** "NEED, but no more than what the POND has above 30 times its MASS": 40 are above it. */
    private static void needAndNoMore() {
        int[][] needDue = {{0, 0}, {1, 1}, {39, 39}, {40, 40}, {41, 40}, {999, 40}};
        for (int[] row : needDue) {
            Steamfield f = warming(31, row[0]);
            Check.due("heat of need " + row[0], f.many(11), row[1]);
            Check.due("heat left in the pond", f.pond(1), 1240 - row[1]);
            Check.due("its mass is left", f.pond(0), 40);
        }
        Check.due("the most need", warming(90, 999).many(11), 999);
    }

    /** "(0, if it has less)". */
    private static void whatThePondHasAbove() {
        int[][] warmthDue = {{0, 0}, {29, 0}, {30, 0}, {31, 40}, {32, 80}};
        for (int[] row : warmthDue) {
            Steamfield f = warming(row[0], 999);
            Check.due("heat by warmth " + row[0], f.many(11), row[1]);
            Check.due("heat left by warmth " + row[0], f.pond(1), 40 * row[0] - row[1]);
        }
        Steamfield empty = new Steamfield();
        empty.town(999);
        empty.run(1);
        Check.due("heat of no pond", empty.many(11), 0);
    }

    /** A pond of 500 by one well, and as much more by another one. */
    private static Steamfield filling(int massOfSecond) {
        Steamfield f = new Steamfield();
        f.block(10, 0, 2000, 50, 4000);
        f.block(10, 0, massOfSecond, 50, Math.min(10 * massOfSecond, 9999));
        f.well(0, false);
        f.well(1, false);
        f.valve(0, 9);
        f.valve(1, 9);
        return f;
    }

    /** "What is above 500 of the POND's MASS is SPILLED". */
    private static void aboveFiveHundred() {
        // 42 of mass give nothing, 43 give 1, 45 give 2.
        int[][] massSpilled = {{42, 0}, {43, 1}, {45, 2}, {2000, 500}};
        for (int[] row : massSpilled) {
            Steamfield f = filling(row[0]);
            f.run(1);
            Check.due("more", f.ofWell(1, 5), row[1]);
            Check.due("spilled", f.mass(5), row[1]);
            Check.due("mass of the pond", f.pond(0), 500);
            Check.due("closed", f.isClosed(), true);
        }
        Steamfield below = new Steamfield();
        below.block(10, 0, 1999, 50, 0);
        below.well(0, false);
        below.valve(0, 9);
        below.run(1);
        Check.due("a pond of 499", below.pond(0), 499);
        Check.due("spilled of 499", below.mass(5), 0);
    }

    /** "of HEAT, SALT and TRACER m times each, divided by its MASS (ahead of that)", rounded down. */
    private static void spilledByWhatThereIs() {
        Steamfield f = filling(43);
        f.trace(0, 999);
        f.trace(1, 999);
        f.run(1);
        // The pond had 501 with 25050, 1010 and 249 + 23: of these 50, 2 and 0 go.
        Check.dueAll("pond", f::pond, 500, 25000, 1008, 272);
        Steamfield g = filling(45);
        g.trace(0, 999);
        g.trace(1, 999);
        g.run(1);
        // It had 502 with 25100, 1020 and 249 + 44: of these 100, 4 (2040 / 502) and 1 (586 / 502) go.
        Check.dueAll("pond", g::pond, 500, 25000, 1016, 292);
        Check.due("closed", g.isClosed(), true);
    }

    /** (5) is ahead of (6): what an injector would take is spilled. */
    private static void spilledAheadOfInjectors() {
        Steamfield f = filling(45);
        f.well(1, true);
        f.valve(2, 1);
        f.run(1);
        Check.due("spilled", f.mass(5), 2);
        Check.due("mass of the pond", f.pond(0), 496);
    }

    // ---- 2 (6): injectors

    /** "4 times VALVE". */
    private static void fourTimesValve() {
        for (int valve = 0; valve <= 9; valve++) {
            Steamfield f = injecting(99);
            f.valve(1, valve);
            f.run(1);
            Check.due("put in by valve " + valve, f.ofWell(1, 5), 4 * valve);
            Check.due("mass of its block", f.ofBlock(1, 0), 4 * valve);
            Check.due("left in the pond", f.pond(0), 500 - 4 * valve);
        }
    }

    /** "with a YELLOW LIGHT a half of that, with a RED one none". */
    private static void aHalfOrNone() {
        int[][] volumeLight = {{36, 1}, {14, 2}};
        for (int[] row : volumeLight) {
            for (int valve = 0; valve <= 9; valve++) {
                Steamfield f = injecting(row[0]);
                f.run(1);
                Check.due("light", f.many(5), row[1]);
                f.valve(1, valve);
                f.run(1);
                int due = row[1] == 1 ? 2 * valve : 0;
                Check.due("put in by valve " + valve + ", light " + row[1], f.ofWell(1, 5), due);
            }
        }
    }

    /** "no more than the POND's MASS": less, the same, 1 more, and nothing at all. */
    private static void noMoreThanThePond() {
        int[][] massFirstSecond = {{40, 0, 0}, {60, 1, 0}, {100, 3, 0}, {120, 4, 0}, {140, 4, 1}, {200, 4, 4},
            {220, 4, 4}};
        for (int[] row : massFirstSecond) {
            Steamfield f = new Steamfield();
            f.block(10, 0, row[0], 50, 0);
            f.block(99, 0, 0, 0, 0);
            f.well(0, false);
            f.well(1, true);
            f.well(1, true);
            for (int well = 0; well < 3; well++) {
                f.valve(well, 1);
            }
            f.run(1);
            long brine = (row[0] - 40) / 20;
            Check.due("brine", f.ofWell(0, 5), brine);
            Check.due("the first of " + brine, f.ofWell(1, 5), row[1]);
            Check.due("the second of " + brine, f.ofWell(2, 5), row[2]);
            Check.due("left of " + brine, f.pond(0), brine - row[1] - row[2]);
            Check.due("heat left of " + brine, f.pond(1), 50 * (brine - row[1] - row[2]));
        }
        // 4 of 5: "HEAT, SALT and TRACER as in (5)", rounded down. The injector is told first, and is the later one.
        Steamfield f = new Steamfield();
        f.block(10, 0, 140, 50, 196);
        f.block(99, 0, 0, 0, 0);
        f.well(1, true);
        f.well(0, false);
        f.valve(0, 1);
        f.valve(1, 1);
        f.trace(1, 252);
        f.run(1);
        Check.dueAll("well", what -> f.ofWell(0, what), 1, 1, 1, 0, 0, 4, 0, 7, 4);
        Check.dueAll("block", what -> f.ofBlock(1, what), 4, 200, 5, 7, 0, 1);
        Check.dueAll("pond", f::pond, 1, 50, 2, 2);
    }

    /** "As the PRESSURE of that is more by 5 or more": as both are rounded down, ahead and behind. */
    private static void byFiveOrMore() {
        // 20 of mass into that volume, that has as much.
        int[][] volumeMassShock = {{40, 0, 5}, {41, 0, 0}, {41, 1, 5}, {50, 0, 0}, {99, 0, 0}, {10, 0, 20},
            {34, 0, 5}, {33, 0, 6}};
        for (int[] row : volumeMassShock) {
            Steamfield f = new Steamfield();
            f.block(10, 0, 2000, 50, 0);
            f.block(row[0], 1, row[1], 0, 0);
            f.well(0, false);
            f.well(1, true);
            f.valve(0, 9);
            f.valve(1, 5);
            f.run(1);
            Check.due("put in", f.ofWell(1, 5), 20);
            Check.due("shock in volume " + row[0] + " with " + row[1], f.many(6), row[2]);
        }
    }

    /** "by this alone": not by a face or by another injector; "(0 at first)" in each step. */
    private static void byThisAlone() {
        Steamfield f = new Steamfield();
        f.block(10, 0, 2000, 50, 0);
        f.block(50, 1, 0, 0, 0);
        f.face(0, 1, 9);
        f.well(0, false);
        f.well(1, true);
        f.well(1, true);
        f.valve(0, 9);
        f.valve(1, 5);
        f.valve(2, 5);
        f.run(1);
        // 100 by the face, then 4 and 4 by the injectors.
        Check.due("pressure", f.ofBlock(1, 4), 108);
        Check.due("shock", f.many(6), 0);
        Steamfield g = injecting(40);
        g.run(1);
        Check.due("shock", g.many(6), 9);
        g.valve(1, 0);
        g.run(1);
        Check.due("shock of the next step", g.many(6), 0);
    }

    // ---- 2 (7): springs

    private static Steamfield springing(int mass, int level, int promise) {
        Steamfield f = new Steamfield();
        f.block(10, 0, mass, 0, 0);
        f.spring(0, level, promise);
        f.run(1);
        return f;
    }

    /** "PRESSURE less LEVEL, 0 at least, divided by 5", rounded down. */
    private static void lessLevel() {
        int[][] massLevelDue = {{0, 0, 0}, {4, 0, 0}, {5, 0, 1}, {9, 0, 1}, {10, 0, 2}, {99, 100, 0}, {100, 100, 0},
            {104, 100, 0}, {105, 100, 1}, {0, 300, 0}, {300, 300, 0}, {305, 300, 1}, {2000, 0, 400}, {2000, 300, 340}};
        for (int[] row : massLevelDue) {
            Steamfield f = springing(row[0], row[1], 0);
            String what = " of " + row[0] + " by level " + row[1];
            Check.due("flow" + what, f.ofSpring(0, 0), row[2]);
            Check.due("left" + what, f.ofBlock(0, 0), row[0] - row[2]);
            Check.due("gone" + what, f.mass(6), row[2]);
        }
    }

    /** "What it LACKS is its PROMISE less that, 0 at least": of a flow of 10. */
    private static void whatItLacks() {
        int[][] promiseDue = {{0, 0}, {9, 0}, {10, 0}, {11, 1}, {50, 40}};
        for (int[] row : promiseDue) {
            Steamfield f = springing(150, 100, row[0]);
            Check.dueAll("spring of promise " + row[0], what -> f.ofSpring(0, what), 10, row[1], 10, row[1]);
            Check.due("all that springs lacked", f.many(12), row[1]);
        }
        Check.due("lacks of no flow", springing(0, 300, 50).ofSpring(0, 1), 50);
    }

    // ---- 2 (8): coins

    /** "1 for each whole 100 of HEAT that the TOWN got in this STEP". */
    private static void eachWholeHundred() {
        int[][] needCoins = {{0, 0}, {99, 0}, {100, 1}, {199, 1}, {200, 2}, {999, 9}};
        for (int[] row : needCoins) {
            Steamfield f = warming(90, row[0]);
            Check.due("heat", f.many(11), row[0]);
            Check.due("coins for " + row[0], f.ofOwner(0, 0), 100 + row[1]);
            f.valve(0, 0);
            f.town(99);
            f.run(1);
            Check.due("99 of the next step are no whole 100", f.ofOwner(0, 0), 100 + row[1]);
        }
    }

    /** "3 for each POWER, and 1 for each whole 100 ..., as one sum": not each divided by itself. */
    private static void asOneSum() {
        Steamfield f = steamOf21(1);
        f.block(13, 1, 0, 0, 0);
        f.town(999);
        f.run(1);
        // 3 * 2 + 9 = 15, 15 * 10 / 23 = 6; but 6 * 10 / 23 = 2 and 9 * 10 / 23 = 3.
        Check.due("power", f.many(9), 2);
        Check.due("heat", f.many(11), 999);
        Check.dueAll("coins of", owner -> f.ofOwner(owner, 0), 106, 109);
    }

    /** "the OWNER 0 gets that times its SHARE, divided by both (0 without BLOCKS); the OWNER 1 the rest". */
    private static void theRestToOwnerOne() {
        // 42 of power, 126 coins: the first block has a volume of 10.
        int[][] ownerVolumeDue = {{0, 0, 126, 0}, {1, 0, 0, 126}, {0, 10, 63, 63}, {1, 10, 63, 63}, {0, 11, 60, 66},
            {0, 99, 11, 115}, {1, 99, 114, 12}};
        for (int[] row : ownerVolumeDue) {
            Steamfield f = new Steamfield();
            f.block(10, row[0], 208, 300, 0);
            if (row[1] > 0) {
                f.block(row[1], 1 - row[0], 0, 0, 0);
            }
            f.well(0, false);
            f.valve(0, 5);
            f.turbine(21);
            f.run(1);
            Check.due("power", f.many(9), 42);
            Check.due("coins of 0 by " + row[1], f.ofOwner(0, 0), 100 + row[2]);
            Check.due("coins of 1 by " + row[1], f.ofOwner(1, 0), 100 + row[3]);
        }
        Steamfield none = new Steamfield();
        none.town(999);
        none.run(30);
        Check.dueAll("without blocks, coins of", owner -> none.ofOwner(owner, 0), 100, 100);
    }

    /** "For each 1 that a SPRING LACKS the OWNER of its BLOCK pays 2, the other OWNER 1". */
    private static void twoForEachLack() {
        for (int owner = 0; owner <= 1; owner++) {
            for (int promise : new int[] {0, 1, 50}) {
                Steamfield f = new Steamfield();
                f.block(10, owner, 0, 0, 0);
                f.spring(0, 0, promise);
                f.run(1);
                Check.due("coins of its owner, lack " + promise, f.ofOwner(owner, 0), 100 - 2 * promise);
                Check.due("coins of the other one", f.ofOwner(1 - owner, 0), 100 - promise);
            }
        }
        Steamfield both = new Steamfield();
        both.block(10, 0, 0, 0, 0);
        both.block(10, 1, 0, 0, 0);
        both.spring(0, 0, 10);
        both.spring(1, 0, 7);
        both.run(1);
        Check.dueAll("coins by two springs, of", owner -> both.ofOwner(owner, 0), 100 - 20 - 7, 100 - 10 - 14);
    }

    /** "(also if less than 0 is left)". */
    private static void alsoIfLessThanNothing() {
        Steamfield f = new Steamfield();
        f.block(10, 0, 0, 0, 0);
        f.spring(0, 0, 50);
        long[] first = {0, -100, -200};
        long[] other = {50, 0, -50};
        for (int i = 0; i < first.length; i++) {
            f.run(1);
            Check.due("coins of its owner " + i, f.ofOwner(0, 0), first[i]);
            Check.due("coins of the other one " + i, f.ofOwner(1, 0), other[i]);
        }
        f.run(30);
        Check.dueAll("coins behind 33 steps, of", owner -> f.ofOwner(owner, 0), 100 - 3300, 100 - 1650);
    }

    // ---- 3, and promise 11

    /** "MASS is kept ...; SALT and TRACER ...": through each step of a field with as many of all as there may be. */
    private static void massIsKept() {
        Steamfield f = Edges.told(Edges.FULL);
        f.turbine(5);
        for (int step = 0; step < 120; step++) {
            // Without injectors at first, so that the pond spills.
            for (int well = 0; well < 6; well++) {
                f.valve(well, f.ofWell(well, 1) == 0 || step > 60 ? 9 : 0);
            }
            f.run(1);
            if (step % 7 == 0 && f.ofBlock(f.ofWell(step % 6, 0), 0) > 0) {
                f.trace(step % 6, 999);
            }
            long sum = 0;
            for (int what = 1; what <= 6; what++) {
                sum += f.mass(what);
            }
            Check.due("mass of step " + step, sum, f.mass(0));
            Check.due("closed in step " + step, f.isClosed(), true);
        }
        for (int what = 3; what <= 6; what++) {
            Check.due("there is some mass(" + what + ")", f.mass(what) > 0, true);
        }
    }

    /** "if steps is not 1 to 30". */
    private static void stepsOfARun() {
        Edges.range("steps", 1, 30, Edges.NOTHING, Steamfield::run);
        Edges.range("steps, among all", 1, 30, Edges.FULL, Steamfield::run);
    }

    /** "Returns the POWER of all these together": not of the last one, and not that ahead of them. */
    private static void powerOfAllTogether() {
        Steamfield one = Edges.told(Edges.FULL);
        Steamfield all = Edges.told(Edges.FULL);
        one.turbine(60);
        all.turbine(60);
        for (int steps : new int[] {1, 2, 30}) {
            long sum = 0;
            for (int i = 0; i < steps; i++) {
                sum += one.run(1);
            }
            Check.due("power of " + steps, all.run(steps), sum);
            Check.due("and all behind it", Edges.seen(all), Edges.seen(one));
        }
        Check.due("there was some", all.many(10) > 0, true);
    }

    /** "NOW is 1 more (0 at first)". */
    private static void nowIsOneMore() {
        Steamfield f = new Steamfield();
        Check.due("now at first", f.many(4), 0);
        f.run(1);
        Check.due("now behind one", f.many(4), 1);
        f.run(30);
        Check.due("now behind 30 more", f.many(4), 31);
        Check.dueThrow("a run of none", Check.ARGUMENT, () -> f.run(0));
        Check.due("now behind what was refused", f.many(4), 31);
    }

    /** "An object is used for at most 512 calls": the last of these is answered like the first. */
    private static void atMost512Calls() {
        Steamfield steps = calledOften();
        Check.due("now as the call 512", steps.many(4), 253 * 30);
        Steamfield closed = calledOften();
        Check.due("closed as the call 512", closed.isClosed(), true);
        Steamfield tracer = calledOften();
        Check.due("tracer as the call 512", tracer.ofBlock(0, 3) > 999, true);
    }

    /** A field behind 511 calls, mostly of tracer and of 30 steps. */
    private static Steamfield calledOften() {
        Steamfield f = new Steamfield();
        f.block(99, 0, 2000, 400, 9999);
        f.well(0, false);
        f.valve(0, 9);
        f.turbine(3);
        f.town(999);
        for (int i = 0; i < 253; i++) {
            f.trace(0, 999);
            f.run(30);
        }
        return f;
    }
}
