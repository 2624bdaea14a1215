/** Promise 11, and the parts (1) to (8) of a step with what promises 12 to 18 and 20 tell of it. */
public final class StepTest {
    public static void main(String[] args) {
        stepsAndTheirLimits();
        throughAFace();
        aFaceTheOtherWay();
        aQuarterAtMost();
        heatOnItsOwn();
        aFaceOpens();
        facesInTheirOrder();
        aProducer();
        aProducerIsHotOrCold();
        producersInTheirOrder();
        scaleMakesLess();
        crustAtItsEdge();
        theTurbine();
        theTown();
        thePondSpills();
        anInjector();
        lights();
        aRedLight();
        shockAtItsEdge();
        aSpring();
        coinsByShares();
        tracerGoesAlong();
        Check.end("StepTest");
    }

    private static void stepsAndTheirLimits() {
        Steamfield f = new Steamfield();
        for (int steps : new int[] {0, 31, -1, Integer.MIN_VALUE, Integer.MAX_VALUE}) {
            Check.dueThrow("run(" + steps + ")", Check.ARGUMENT, f, () -> f.run(steps));
        }
        Check.due("run(30) of nothing", f.run(30), 0);
        Check.due("now", f.many(4), 30);
        f.run(1);
        Check.due("now", f.many(4), 31);

        Steamfield one = steamy(200, 300);
        Steamfield many = steamy(200, 300);
        int sum = 0;
        for (int i = 0; i < 7; i++) {
            sum += one.run(1);
        }
        Check.due("run(7) is 7 times run(1)", many.run(7), sum);
        Check.due("and leaves the same", many.digest(), one.digest());
        Check.due("power ever", many.many(10), sum);
    }

    private static void blockIs(Steamfield f, int block, long mass, long heat, long salt) {
        Check.due("mass of block " + block, f.ofBlock(block, 0), mass);
        Check.due("heat of block " + block, f.ofBlock(block, 1), heat);
        Check.due("salt of block " + block, f.ofBlock(block, 2), salt);
    }

    private static void pondIs(Steamfield f, long mass, long heat, long salt) {
        Check.due("mass of the pond", f.pond(0), mass);
        Check.due("heat of the pond", f.pond(1), heat);
        Check.due("salt of the pond", f.pond(2), salt);
    }

    private static void throughAFace() {
        Steamfield f = new Steamfield();
        f.block(10, 0, 100, 100, 50);
        f.block(10, 0, 20, 40, 0);
        f.face(0, 1, 5);
        f.run(1);
        // 80 * 5 / 20 = 20 with 2000 of heat and 10 of salt; then (100 - 64) * 5 of heat.
        Check.due("flow", f.ofFace(0, true), 20);
        Check.due("open", f.ofFace(0, false), 6);
        blockIs(f, 0, 80, 8820, 40);
        blockIs(f, 1, 40, 3380, 10);
        f.run(1);
        // 40 * 6 / 20 = 12 with 98 * 12 and 12 * 40 / 80; then (98 - 73) * 6.
        Check.due("flow 2", f.ofFace(0, true), 12);
        Check.due("open 2", f.ofFace(0, false), 6);
        blockIs(f, 0, 68, 7494, 34);
        blockIs(f, 1, 52, 4706, 16);
    }

    private static void aFaceTheOtherWay() {
        Steamfield f = new Steamfield();
        f.block(10, 0, 100, 100, 50);
        f.block(10, 0, 20, 40, 0);
        f.face(1, 0, 5);
        f.run(1);
        Check.due("flow", f.ofFace(0, true), -20);
        blockIs(f, 0, 80, 8820, 40);
        blockIs(f, 1, 40, 3380, 10);
    }

    private static void aQuarterAtMost() {
        Steamfield f = new Steamfield();
        f.block(10, 0, 103, 0, 7);
        f.block(10, 0, 0, 0, 0);
        f.face(0, 1, 9);
        f.run(1);
        Check.due("flow of a quarter", f.ofFace(0, true), 25);
        blockIs(f, 0, 78, 0, 6);
        blockIs(f, 1, 25, 0, 1);
    }

    private static void heatOnItsOwn() {
        Steamfield f = new Steamfield();
        f.block(10, 0, 40, 20, 0);
        f.block(20, 0, 80, 91, 0);
        f.face(0, 1, 7);
        f.run(1);
        Check.due("no flow of the same pressure", f.ofFace(0, true), 0);
        blockIs(f, 0, 40, 1000 + 71 * 7, 0);
        blockIs(f, 1, 80, 9100 - 71 * 7, 0);

        Steamfield dry = new Steamfield();
        dry.block(10, 0, 0, 400, 77);
        dry.block(10, 1, 0, 0, 0);
        dry.face(0, 1, 9);
        dry.run(1);
        blockIs(dry, 0, 0, 400, 77);
        blockIs(dry, 1, 0, 3600, 0);
        dry.run(1);
        blockIs(dry, 0, 0, 400 + 320 * 9, 77);
        blockIs(dry, 1, 0, 3600 - 320 * 9, 0);
    }

    private static void aFaceOpens() {
        int[][] massOpenDue = {{49, 1, 1}, {50, 1, 2}, {50, 8, 9}, {50, 9, 9}, {2000, 9, 9}};
        for (int[] row : massOpenDue) {
            Steamfield f = new Steamfield();
            f.block(10, 0, row[0], 0, 0);
            f.block(10, 0, 0, 0, 0);
            f.face(0, 1, row[1]);
            f.run(1);
            Check.due("open of " + row[0] + ", " + row[1], f.ofFace(0, false), row[2]);
        }
        Steamfield f = new Steamfield();
        f.block(10, 0, 0, 0, 0);
        f.block(10, 0, 60, 0, 0);
        f.face(0, 1, 1);
        f.run(1);
        Check.due("open, the other way", f.ofFace(0, false), 2);

        // It opens behind the heat: 100 * 1 goes, not 100 * 2.
        Steamfield heat = new Steamfield();
        heat.block(10, 0, 60, 0, 0);
        heat.block(10, 0, 0, 100, 0);
        heat.face(0, 1, 1);
        heat.run(1);
        // 60 * 1 / 20 = 3 of no heat; the warmth of the other is 1000 / 13 = 76.
        blockIs(heat, 0, 57, 76, 0);
        blockIs(heat, 1, 3, 924, 0);
    }

    private static void facesInTheirOrder() {
        Steamfield f = new Steamfield();
        f.block(10, 0, 80, 0, 0);
        f.block(10, 0, 0, 0, 0);
        f.block(10, 0, 0, 0, 0);
        f.face(0, 1, 5);
        f.face(1, 2, 5);
        f.run(1);
        // By now: 80 * 5 / 20 = 20, then 20 * 5 / 20 = 5.
        Check.due("flow of face 0", f.ofFace(0, true), 20);
        Check.due("flow of face 1", f.ofFace(1, true), 5);
        Steamfield back = new Steamfield();
        back.block(10, 0, 80, 0, 0);
        back.block(10, 0, 0, 0, 0);
        back.block(10, 0, 0, 0, 0);
        back.face(1, 2, 5);
        back.face(0, 1, 5);
        back.run(1);
        Check.due("flow of the far face first", back.ofFace(0, true), 0);
        Check.due("flow of the near face", back.ofFace(1, true), 20);
    }

    /** A producer with valve 5 in a block of volume 10. */
    private static Steamfield steamy(int mass, int warmth) {
        Steamfield f = new Steamfield();
        f.block(10, 0, mass, warmth, 1000);
        f.well(0, false);
        f.valve(0, 5);
        return f;
    }

    private static void wellIs(Steamfield f, int well, long flow, long steam, long tracer, long ever) {
        Check.due("flow of well " + well, f.ofWell(well, 5), flow);
        Check.due("steam of well " + well, f.ofWell(well, 6), steam);
        Check.due("tracer of well " + well, f.ofWell(well, 7), tracer);
        Check.due("flow ever of well " + well, f.ofWell(well, 8), ever);
    }

    private static void aProducer() {
        Steamfield f = steamy(200, 300);
        Check.due("power", f.run(1), 40);
        // (200 - 40) * 5 / 20 = 40; of these 40 * 200 / 400 are steam.
        wellIs(f, 0, 40, 20, 0, 40);
        blockIs(f, 0, 160, 51000, 800);
        pondIs(f, 20, 2000, 200);
        Check.due("crust", f.ofWell(0, 4), 1);
        f.run(1);
        // (160 - 40) * 5 / 20 = 30; the warmth is 51000 / 170 = 300.
        wellIs(f, 0, 30, 15, 0, 70);
        blockIs(f, 0, 130, 42000, 650);
        pondIs(f, 35, 3500, 350);
        f.valve(0, 0);
        f.run(1);
        wellIs(f, 0, 0, 0, 0, 70);
        Check.due("a closed well has no crust of it", f.ofWell(0, 4), 2);
        f.valve(0, 9);
        f.run(1);
        Check.due("a quarter at most", f.ofWell(0, 5), 32);
    }

    private static void aProducerIsHotOrCold() {
        // Below 100 there is no steam, and the brine is as warm as the block.
        Steamfield cold = steamy(200, 99);
        cold.run(1);
        wellIs(cold, 0, 40, 0, 0, 40);
        pondIs(cold, 40, 3960, 200);
        Check.due("crust by 2000 to 1200", cold.ofWell(0, 4), 1);

        Steamfield hot = steamy(200, 400);
        hot.turbine(99);
        hot.run(1);
        wellIs(hot, 0, 40, 30, 0, 40);
        pondIs(hot, 10, 1000, 200);

        Steamfield low = steamy(40, 300);
        low.run(1);
        wellIs(low, 0, 0, 0, 0, 0);
        Steamfield lower = steamy(0, 300);
        lower.run(1);
        wellIs(lower, 0, 0, 0, 0, 0);
        Check.due("crust without flow", lower.ofWell(0, 4), 0);
        Steamfield some = steamy(44, 100);
        some.run(1);
        wellIs(some, 0, 1, 0, 0, 1);
    }

    private static void producersInTheirOrder() {
        Steamfield f = steamy(200, 300);
        f.well(0, false);
        f.valve(1, 5);
        f.turbine(99);
        f.run(1);
        // The second one finds 160 of mass: (160 - 40) * 5 / 20.
        wellIs(f, 0, 40, 20, 0, 40);
        wellIs(f, 1, 30, 15, 0, 30);
        Check.due("power of both", f.many(9), 70);
        Check.due("used", f.mass(3), 35);
        Check.due("vented", f.mass(4), 0);
    }

    private static void scaleMakesLess() {
        Steamfield f = new Steamfield();
        f.block(99, 0, 2000, 100, 9999);
        f.well(0, false);
        f.valve(0, 1);
        for (int step = 1; step <= 60; step++) {
            long drive = Math.max(0, f.ofBlock(0, 4) - 40 - 3 * f.ofWell(0, 3));
            long flow = Math.min(drive / 20, f.ofBlock(0, 0) / 4);
            f.run(1);
            Check.due("flow of step " + step, f.ofWell(0, 5), flow);
            Check.due("scale of step " + step, f.ofWell(0, 3), Math.min(9, step / 5));
            Check.due("crust of step " + step, f.ofWell(0, 4), step % 5);
        }
    }

    private static void crustAtItsEdge() {
        // A flow of 24 from 200 of mass, all brine: 73 of salt are needed, which 609 of the block give.
        int[][] saltDue = {{600, 0}, {608, 0}, {609, 1}};
        for (int[] row : saltDue) {
            Steamfield f = new Steamfield();
            f.block(10, 0, 200, 100, row[0]);
            f.well(0, false);
            f.valve(0, 3);
            f.run(1);
            Check.due("flow", f.ofWell(0, 5), 24);
            Check.due("salt of it", f.pond(2), 72 + row[1]);
            Check.due("crust of salt " + row[0], f.ofWell(0, 4), row[1]);
        }
    }

    private static void theTurbine() {
        // 20 of steam in the first step, 15 in the second one.
        int[][] sizePowerRunning = {{20, 40, 1}, {99, 40, 1}, {10, 20, 1}, {9, 18, 0}, {1, 2, 0}, {0, 0, 1}};
        for (int[] row : sizePowerRunning) {
            Steamfield f = steamy(200, 300);
            f.turbine(row[0]);
            Check.due("power of size " + row[0], f.run(1), row[1]);
            Check.due("of the last step", f.many(9), row[1]);
            Check.due("used", f.mass(3), row[1] / 2);
            Check.due("vented", f.mass(4), 20 - row[1] / 2);
            Check.due("running", f.many(7), row[2]);
            int next = row[2] == 1 ? 2 * Math.min(row[0], 15) : 0;
            Check.due("power of the next step", f.run(1), next);
            Check.due("vented then", f.mass(4), 35 - (row[1] + next) / 2);
            Check.due("running then", f.many(7), row[2]);
            Check.due("power ever", f.many(10), row[1] + next);
        }
        Steamfield again = steamy(200, 300);
        again.turbine(5);
        again.run(1);
        again.turbine(5);
        Check.due("power, told anew", again.run(1), 10);
    }

    private static void theTown() {
        // The pond has 20 of mass with 2000 of heat: 1400 can go.
        int[][] needGot = {{0, 0}, {99, 99}, {100, 100}, {999, 999}};
        for (int[] row : needGot) {
            Steamfield f = steamy(200, 300);
            f.town(row[0]);
            f.run(1);
            Check.due("heat of the town", f.many(11), row[1]);
            pondIs(f, 20, 2000 - row[1], 200);
            Check.due("coins", f.ofOwner(0, 0), 100 + 120 + row[1] / 100);
        }
        Steamfield f = steamy(200, 300);
        f.town(999);
        f.run(1);
        f.valve(0, 0);
        f.run(1);
        Check.due("what is above 30 times the mass", f.many(11), 401);
        pondIs(f, 20, 600, 200);
        f.run(1);
        Check.due("nothing is", f.many(11), 0);
        // Cold brine: the pond has less than 30 times its mass.
        Steamfield cold = steamy(200, 20);
        cold.town(999);
        cold.run(1);
        Check.due("of less", cold.many(11), 0);
        pondIs(cold, 40, 800, 200);
    }

    private static Steamfield gushing() {
        Steamfield f = new Steamfield();
        f.block(10, 0, 2000, 50, 4000);
        f.well(0, false);
        f.valve(0, 9);
        return f;
    }

    private static void thePondSpills() {
        Steamfield f = gushing();
        f.run(1);
        pondIs(f, 500, 25000, 1000);
        Check.due("spilled of 500", f.mass(5), 0);
        f.run(1);
        // 375 more with 375 * 50 and 750: 375 of the 875 go.
        pondIs(f, 500, 25000, 1000);
        blockIs(f, 0, 1125, 100500 - 25000 - 18750, 2250);
        Check.due("spilled", f.mass(5), 375);
        Check.due("told", f.mass(0), 2000);
        Check.due("in blocks", f.mass(1), 1125);
        Check.due("in the pond", f.mass(2), 500);
        Check.due("closed", f.isClosed(), true);

        // The town comes first, and what is spilled is by what it leaves.
        Steamfield g = gushing();
        g.run(1);
        g.town(875);
        g.run(1);
        // 43750 less 875 of 875 of mass: 49 each.
        pondIs(g, 500, 500 * 49, 1000);
    }

    /** A pond with 500 of mass, and an injector into an empty block of that volume. */
    private static Steamfield injecting(int volume, int valve) {
        Steamfield f = gushing();
        f.block(volume, 1, 0, 0, 0);
        f.well(1, true);
        f.run(1);
        f.valve(0, 0);
        f.valve(1, valve);
        return f;
    }

    private static void anInjector() {
        Steamfield f = injecting(99, 9);
        wellIs(f, 1, 0, 0, 0, 0);
        f.run(1);
        wellIs(f, 1, 36, 0, 0, 36);
        pondIs(f, 464, 25000 - 36 * 50, 1000 - 72);
        blockIs(f, 1, 36, 1800, 72);
        Check.due("shock of less than 5", f.many(6), 0);
        f.valve(1, 1);
        f.run(1);
        wellIs(f, 1, 4, 0, 0, 40);
        f.valve(1, 9);
        f.run(12);
        pondIs(f, 28, 1400, 56);
        f.run(1);
        wellIs(f, 1, 28, 0, 0, 40 + 12 * 36 + 28);
        pondIs(f, 0, 0, 0);
        f.run(1);
        wellIs(f, 1, 0, 0, 0, 500);
        blockIs(f, 1, 500, 25000, 1000);
        Check.due("closed", f.isClosed(), true);
    }

    private static void lights() {
        // 8 of shock with a green light; 16 together make it yellow, and half of it no shock.
        Steamfield f = injecting(10, 2);
        long[] put = {8, 8, 4, 4, 4, 8, 8, 4, 4, 4, 8};
        long[] shock = {8, 8, 0, 0, 0, 8, 8, 0, 0, 0, 8};
        long[] next = {0, 1, 1, 1, 0, 0, 1, 1, 1, 0, 0};
        for (int i = 0; i < put.length; i++) {
            f.run(1);
            Check.due("put in step " + i, f.ofWell(1, 5), put[i]);
            Check.due("shock of step " + i, f.many(6), shock[i]);
            Check.due("light behind step " + i, f.many(5), next[i]);
        }
        int[][] shockLight = {{8, 0}, {12, 1}, {24, 1}, {28, 2}};
        for (int[] row : shockLight) {
            Steamfield g = injecting(10, row[0] / 4);
            g.run(1);
            Check.due("shock of valve " + row[0] / 4, g.many(6), row[0] / 4 * 4);
            Check.due("light of shock " + row[0], g.many(5), row[1]);
        }
        lightsAtTheirEdges();
    }

    private static void lightsAtTheirEdges() {
        // 36 into an empty block: 360 divided by its volume.
        int[][] volumeValveShockLight = {{40, 9, 9, 0}, {36, 9, 10, 1}, {15, 9, 24, 1}, {14, 9, 25, 2}};
        for (int[] row : volumeValveShockLight) {
            Steamfield f = injecting(row[0], row[1]);
            f.run(1);
            Check.due("shock of volume " + row[0], f.many(6), row[2]);
            Check.due("light of volume " + row[0], f.many(5), row[3]);
        }
    }

    private static void aRedLight() {
        Steamfield f = injecting(10, 9);
        f.run(1);
        Check.due("shock", f.many(6), 36);
        Check.due("red", f.many(5), 2);
        for (int i = 0; i < 4; i++) {
            f.run(1);
            wellIs(f, 1, 0, 0, 0, 36);
        }
        Check.due("green behind 4 steps", f.many(5), 0);
        f.run(1);
        wellIs(f, 1, 36, 0, 0, 72);
    }

    private static void shockAtItsEdge() {
        // 20 into volume 40 is a rise by 5, 20 into volume 41 by 4.
        int[][] volumeShock = {{40, 5}, {41, 0}, {99, 0}, {10, 20}};
        for (int[] row : volumeShock) {
            Steamfield f = injecting(row[0], 5);
            f.run(1);
            Check.due("shock in volume " + row[0], f.many(6), row[1]);
        }
        // Two injectors into one block: each rise counts by itself.
        Steamfield two = injecting(40, 5);
        two.well(1, true);
        two.valve(2, 5);
        two.run(1);
        Check.due("shock of two", two.many(6), 10);
        Steamfield none = injecting(41, 5);
        none.well(1, true);
        none.valve(2, 4);
        none.run(1);
        // 200 / 41 = 4, then 360 / 41 = 8: both by 4.
        Check.due("shock of two small ones", none.many(6), 0);
    }

    private static void aSpring() {
        Steamfield f = new Steamfield();
        f.block(10, 0, 100, 30, 60);
        f.spring(0, 40, 20);
        f.run(1);
        Check.due("flow", f.ofSpring(0, 0), 12);
        Check.due("lacked", f.ofSpring(0, 1), 8);
        blockIs(f, 0, 88, 3300 - 360, 60 - 7);
        Check.due("from springs", f.mass(6), 12);
        Check.due("coins of 0", f.ofOwner(0, 0), 84);
        Check.due("coins of 1", f.ofOwner(1, 0), 92);
        f.run(1);
        Check.due("flow 2", f.ofSpring(0, 0), 9);
        Check.due("lacked 2", f.ofSpring(0, 1), 11);
        Check.due("flow ever", f.ofSpring(0, 2), 21);
        Check.due("lacked ever", f.ofSpring(0, 3), 19);
        Check.due("all lacks ever", f.many(12), 19);
        Check.due("closed", f.isClosed(), true);

        Steamfield more = new Steamfield();
        more.block(10, 1, 100, 30, 60);
        more.spring(0, 40, 5);
        more.spring(0, 40, 50);
        more.run(1);
        Check.due("more than the promise", more.ofSpring(0, 0), 12);
        Check.due("lacks nothing", more.ofSpring(0, 1), 0);
        Check.due("the second one finds less", more.ofSpring(1, 0), 9);
        Check.due("all lacks", more.many(12), 41);
        Check.due("the other one pays 1 for each", more.ofOwner(0, 0), 100 - 41);
        Check.due("the owner of the block pays 2", more.ofOwner(1, 0), 100 - 82);
        more.run(3);
        Check.due("also if less than 0 is left", more.ofOwner(1, 0) < 0, true);
    }

    private static void coinsByShares() {
        Steamfield f = steamy(200, 300);
        f.block(23, 1, 0, 0, 0);
        f.town(999);
        f.run(1);
        // 3 * 40 + 9 = 129, of which 129 * 10 / 33 = 39 go to the owner 0.
        Check.due("coins of 0", f.ofOwner(0, 0), 139);
        Check.due("coins of 1", f.ofOwner(1, 0), 190);
        Steamfield g = new Steamfield();
        g.block(10, 1, 200, 300, 1000);
        g.well(0, false);
        g.valve(0, 5);
        g.run(1);
        Check.due("coins of 0 without a share", g.ofOwner(0, 0), 100);
        Check.due("coins of 1 with all", g.ofOwner(1, 0), 220);
    }

    private static void tracerGoesAlong() {
        Steamfield f = steamy(200, 300);
        f.block(10, 0, 0, 0, 0);
        f.face(0, 1, 1);
        f.well(1, true);
        f.valve(1, 3);
        f.spring(1, 0, 0);
        f.trace(0, 400);
        f.run(1);
        // The face: 10 with 20; the well: (190 - 40) * 5 / 20 = 37 of 190 with 37 * 380 / 190 = 74.
        Check.due("tracer of the producer", f.ofWell(0, 7), 74);
        Check.due("tracer of block 0", f.ofBlock(0, 3), 400 - 20 - 74);
        // Its warmth is 61000 / 200 - ... of that the pond keeps what is no steam; 12 of it go down.
        long brine = 37 - f.ofWell(0, 6);
        Check.due("tracer of the injector", f.ofWell(1, 7), 12 * 74 / brine);
        Check.due("tracer of the pond", f.pond(3), 74 - 12 * 74 / brine);
        // The spring: (22 * 10 / 10) / 5 = 4 of 22.
        long ahead = 20 + 12 * 74 / brine;
        Check.due("tracer of block 1", f.ofBlock(1, 3), ahead - 4 * ahead / 22);
        Check.due("closed", f.isClosed(), true);
    }
}
