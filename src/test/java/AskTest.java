/** Promises 12 to 26: what is asked, and what would be. */
public final class AskTest {
    public static void main(String[] args) {
        meanWarmth();
        askingChangesNothing();
        wouldGive();
        coldIn();
        causedBy();
        bestValves();
        digest();
        Check.end("AskTest");
    }

    /** Two producers, two injectors, two springs, faces between all. */
    private static Steamfield busy() {
        Steamfield f = new Steamfield();
        f.block(20, 0, 900, 350, 3000);
        f.block(30, 1, 400, 150, 200);
        f.block(15, 1, 200, 60, 10);
        f.face(0, 1, 3);
        f.face(1, 2, 4);
        f.well(0, false);
        f.well(2, true);
        f.well(1, false);
        f.spring(1, 60, 10);
        f.spring(2, 90, 20);
        f.valve(0, 5);
        f.valve(1, 4);
        f.valve(2, 2);
        f.town(300);
        f.turbine(60);
        f.trace(1, 500);
        f.run(3);
        return f;
    }

    private static void meanWarmth() {
        Steamfield f = new Steamfield();
        Check.due("mean of nothing is 0", f.meanWarmth() == 0.0, true);
        f.block(10, 0, 50, 100, 0);
        Check.due("mean of one", f.meanWarmth() == 100.0, true);
        f.block(20, 1, 0, 15, 0);
        Check.due("mean of two, by volume and not cut", f.meanWarmth() == 1300.0 / 30.0, true);
        f.block(99, 1, 2000, 400, 0);
        Check.due("mean of three", f.meanWarmth() == 40900.0 / 129.0, true);
    }

    private static void askingChangesNothing() {
        Steamfield asked = busy();
        Steamfield left = busy();
        for (int i = 0; i < 5; i++) {
            asked.wouldGive(30);
            asked.coldIn(i % 3, 0);
            asked.causedBy(i % 2, i % 3, 20);
            asked.bestValves(12);
            asked.digest();
            asked.isClosed();
            asked.meanWarmth();
            asked.many(5);
        }
        Check.due("asked and left", asked.digest(), left.digest());
        Check.due("run of both", asked.run(30), left.run(30));
        Check.due("behind that", asked.digest(), left.digest());
    }

    private static void wouldGive() {
        for (int steps = 1; steps <= 30; steps++) {
            Steamfield f = busy();
            int would = f.wouldGive(steps);
            Check.due("run(" + steps + ")", f.run(steps), would);
        }
        Check.due("it gives something", busy().wouldGive(1) > 0, true);
        Check.due("nothing gives nothing", new Steamfield().wouldGive(30), 0);
    }

    private static int coldBySteps(Steamfield f, int well, int warmth) {
        for (int steps = 0; steps <= 30; steps++) {
            if (f.ofBlock(f.ofWell(well, 0), 5) <= warmth) {
                return steps;
            }
            f.run(1);
        }
        return -1;
    }

    private static void coldIn() {
        for (int well = 0; well < 3; well++) {
            for (int warmth = 0; warmth <= 400; warmth += 9) {
                int would = busy().coldIn(well, warmth);
                Check.due("coldIn(" + well + ", " + warmth + ")", would, coldBySteps(busy(), well, warmth));
            }
        }
        Steamfield f = new Steamfield();
        f.block(10, 0, 0, 200, 0);
        f.block(99, 0, 0, 0, 0);
        f.face(0, 1, 1);
        f.well(0, true);
        Check.due("warm as it is now", f.coldIn(0, 200), 0);
        Check.due("one less", f.coldIn(0, 199), 1);
        Steamfield later = new Steamfield();
        later.block(10, 0, 0, 200, 0);
        later.block(99, 0, 0, 0, 0);
        later.face(0, 1, 1);
        later.run(29);
        int before = later.ofBlock(0, 5);
        later.run(1);
        int inThirty = later.ofBlock(0, 5);
        Check.due("it still cools in the step 30", inThirty < before, true);
        Check.due("in 30", f.coldIn(0, inThirty), 30);
        Check.due("not in 30", f.coldIn(0, inThirty - 1), -1);
    }

    private static void causedBy() {
        for (int spring = 0; spring < 2; spring++) {
            for (int well = 0; well < 3; well++) {
                for (int steps : new int[] {1, 2, 7, 30}) {
                    Steamfield as = busy();
                    Steamfield shut = busy();
                    int caused = as.causedBy(spring, well, steps);
                    shut.valve(well, 0);
                    as.run(steps);
                    shut.run(steps);
                    Check.due("causedBy(" + spring + ", " + well + ", " + steps + ")", caused,
                        shut.ofSpring(spring, 2) - as.ofSpring(spring, 2));
                }
            }
        }
        Steamfield f = new Steamfield();
        f.block(10, 0, 200, 50, 0);
        f.well(0, false);
        f.spring(0, 0, 0);
        Check.due("a shut well causes nothing", f.causedBy(0, 0, 30), 0);
        f.valve(0, 5);
        // 40 of 200 are taken by the well: 160 / 5 instead of 200 / 5.
        Check.due("by one step", f.causedBy(0, 0, 1), 8);
        Steamfield g = busy();
        Check.due("an injector helps its spring", g.causedBy(1, 1, 10) < 0, true);
        Check.due("the valve is as it was", g.ofWell(1, 2), 4);
    }

    private static int bestBySteps(Steamfield[] fields, int steps) {
        int best = -1;
        int bestWorth = 0;
        for (int i = 0; i < 16; i++) {
            Steamfield f = fields[i];
            int producers = i / 4 * 3;
            int injectors = i % 4 * 3;
            for (int well = 0; well < f.many(2); well++) {
                f.valve(well, f.ofWell(well, 1) == 1 ? injectors : producers);
            }
            int lacks = f.many(12);
            int worth = f.run(steps) - 3 * (f.many(12) - lacks);
            if (best < 0 || worth > bestWorth) {
                best = 10 * producers + injectors;
                bestWorth = worth;
            }
        }
        return best;
    }

    private static void bestValves() {
        for (int steps = 1; steps <= 12; steps++) {
            Steamfield[] fields = new Steamfield[16];
            for (int i = 0; i < 16; i++) {
                fields[i] = busy();
            }
            int best = busy().bestValves(steps);
            Check.due("bestValves(" + steps + ")", best, bestBySteps(fields, steps));
        }
        Check.due("of nothing the smallest", new Steamfield().bestValves(12), 0);

        // The turbine takes 20: a well that gives them by 3, 6 and 9 is best with 3.
        Steamfield f = new Steamfield();
        f.block(99, 0, 2000, 400, 0);
        f.well(0, false);
        f.turbine(10);
        Check.due("of several the smallest", f.bestValves(1), 30);
        f.valve(0, 9);
        Check.due("the valves of now do not count", f.bestValves(1), 30);
        Check.due("and are left", f.ofWell(0, 2), 9);
        f.turbine(99);
        Check.due("the more the better", f.bestValves(1), 90);
        // In the block of a spring each step of the producer costs more than it gives.
        Steamfield g = new Steamfield();
        g.block(10, 0, 200, 120, 0);
        g.well(0, false);
        g.spring(0, 0, 40);
        g.turbine(99);
        Check.due("the lacks weigh 3 each", g.bestValves(1), 0);
    }

    private static long fold(long d, long v) {
        return d * 31 + v;
    }

    /** The checksum by the words of the document, through the calls alone. */
    static long digestOf(Steamfield f) {
        long d = 58177;
        for (int what = 0; what <= 12; what++) {
            d = fold(d, f.many(what));
        }
        for (int block = 0; block < f.many(0); block++) {
            for (int what = 0; what <= 5; what++) {
                d = fold(d, f.ofBlock(block, what));
            }
        }
        for (int well = 0; well < f.many(2); well++) {
            for (int what = 0; what <= 8; what++) {
                d = fold(d, f.ofWell(well, what));
            }
            d = fold(d, f.coldIn(well, 100));
        }
        for (int face = 0; face < f.many(1); face++) {
            d = fold(fold(d, f.ofFace(face, true)), f.ofFace(face, false));
        }
        for (int spring = 0; spring < f.many(3); spring++) {
            for (int what = 0; what <= 3; what++) {
                d = fold(d, f.ofSpring(spring, what));
            }
            for (int well = 0; well < f.many(2); well++) {
                d = fold(d, f.causedBy(spring, well, 3));
            }
        }
        for (int what = 0; what <= 3; what++) {
            d = fold(d, f.pond(what));
        }
        for (int owner = 0; owner <= 1; owner++) {
            d = fold(fold(d, f.ofOwner(owner, 0)), f.ofOwner(owner, 1));
        }
        for (int what = 0; what <= 6; what++) {
            d = fold(d, f.mass(what));
        }
        d = fold(d, f.isClosed() ? 1 : 0);
        return fold(fold(d, f.wouldGive(4)), f.bestValves(3));
    }

    private static void digest() {
        Steamfield f = busy();
        for (int i = 0; i < 6; i++) {
            Check.due("digest " + i, f.digest(), digestOf(f));
            f.valve(i % 3, 9 - i);
            f.run(1);
        }
        Steamfield none = new Steamfield();
        Check.due("digest of nothing", none.digest(), digestOf(none));
    }
}
