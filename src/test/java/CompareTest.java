/** Long runs of calls with wild and ordinary numbers: each answer is that of the Model. */
public final class CompareTest {
    private static final int[] WILD = {-1, 0, 1, 2, 3, 5, 8, 9, 10, 30, 31, 99, 100, 400, 999, 2000, 9999,
        Integer.MIN_VALUE, Integer.MAX_VALUE};

    private long seed;
    private final Steamfield f = new Steamfield();
    private final Model m = new Model();

    private CompareTest(long seed) {
        this.seed = seed;
    }

    public static void main(String[] args) {
        for (int i = 0; i < 400; i++) {
            new CompareTest(1000 + i).play();
        }
        Check.end("CompareTest");
    }

    private int below(int bound) {
        seed = seed * 6364136223846793005L + 1442695040888963407L;
        return (int) ((seed >>> 33) % bound);
    }

    /** Mostly a number from least to most, at times the edges, rarely a wild one. */
    private int number(int least, int most) {
        int kind = below(40);
        if (kind == 0) {
            return WILD[below(WILD.length)];
        }
        if (kind < 8) {
            return below(2) == 0 ? least : most;
        }
        return least + below(most - least + 1);
    }

    private static boolean in(int value, int least, int most) {
        return value >= least && value <= most;
    }

    private void play() {
        int calls = 60 + below(450);
        int tellUntil = 10 + below(40);
        for (int i = 0; i < calls; i++) {
            if (i < tellUntil) {
                tell(below(12));
            } else {
                int kind = below(20);
                if (kind < 2) {
                    tell(below(4));
                } else if (kind < 7) {
                    tell(4 + below(8));
                } else if (kind < 10) {
                    run();
                } else {
                    ask(below(9));
                }
            }
        }
        everything();
    }

    private interface Call {
        long make();
    }

    private interface After {
        long make();
    }

    /** The model is called only where no exception is due, as it has none. */
    private void same(String what, Class<?> due, Call call, After after) {
        if (due != null) {
            Check.dueThrow(what, due, () -> call.make());
        } else {
            Check.due(what, call.make(), after.make());
        }
    }

    private void tell(int kind) {
        switch (kind) {
            case 0:
            case 8:
                block();
                break;
            case 1:
            case 9:
                face();
                break;
            case 2:
            case 10:
                well();
                break;
            case 3:
            case 11:
                spring();
                break;
            case 4:
                valve();
                break;
            case 5:
                trace();
                break;
            case 6:
                clean();
                break;
            default:
                plant();
        }
    }

    private void block() {
        int volume = number(10, below(3) == 0 ? 12 : 99);
        int owner = number(0, 1);
        int mass = number(0, 2000);
        int warmth = number(0, 400);
        int salt = number(0, 9999);
        Class<?> due = !in(volume, 10, 99) || !in(owner, 0, 1) || !in(mass, 0, 2000) || !in(warmth, 0, 400)
            || !in(salt, 0, 9999) ? Check.ARGUMENT : m.blocks.size() == 8 ? Check.STATE : null;
        same("block", due, () -> f.block(volume, owner, mass, warmth, salt),
            () -> m.block(volume, owner, mass, warmth, salt));
    }

    private int aBlock() {
        return number(0, Math.max(0, m.blocks.size() - 1));
    }

    private int aWell() {
        return number(0, Math.max(0, m.wells.size() - 1));
    }

    private boolean isBlock(int block) {
        return in(block, 0, m.blocks.size() - 1);
    }

    private boolean isWell(int well) {
        return in(well, 0, m.wells.size() - 1);
    }

    private void face() {
        int one = aBlock();
        int other = aBlock();
        int open = number(1, 9);
        Class<?> due = !isBlock(one) || !isBlock(other) ? Check.INDEX
            : one == other || !in(open, 1, 9) ? Check.ARGUMENT : m.faces.size() == 12 ? Check.STATE : null;
        same("face", due, () -> f.face(one, other, open), () -> {
            m.faces.add(new long[] {one, other, open, 0});
            return m.faces.size() - 1;
        });
    }

    private void well() {
        int block = aBlock();
        int kind = below(2);
        Class<?> due = !isBlock(block) ? Check.INDEX : m.wells.size() == 6 ? Check.STATE : null;
        same("well", due, () -> f.well(block, kind == 1), () -> {
            m.wells.add(new long[] {block, kind, 0, 0, 0, 0, 0, 0, 0});
            return m.wells.size() - 1;
        });
    }

    private void spring() {
        int block = aBlock();
        int level = number(0, 300);
        int promise = number(0, 50);
        Class<?> due = !isBlock(block) ? Check.INDEX
            : !in(level, 0, 300) || !in(promise, 0, 50) ? Check.ARGUMENT : m.springs.size() == 3 ? Check.STATE : null;
        same("spring", due, () -> f.spring(block, level, promise), () -> {
            m.springs.add(new long[] {0, 0, 0, 0, block, level, promise});
            return m.springs.size() - 1;
        });
    }

    private void valve() {
        int well = aWell();
        int valve = number(0, 9);
        Class<?> due = !isWell(well) ? Check.INDEX : !in(valve, 0, 9) ? Check.ARGUMENT : null;
        same("valve", due, () -> f.valve(well, valve), () -> {
            long before = m.wells.get(well)[2];
            m.wells.get(well)[2] = valve;
            return before;
        });
    }

    private void trace() {
        int well = aWell();
        int tracer = number(1, 999);
        Class<?> due = !isWell(well) ? Check.INDEX : !in(tracer, 1, 999) ? Check.ARGUMENT
            : m.blocks.get((int) m.wells.get(well)[0])[0] == 0 ? Check.STATE : null;
        same("trace", due, () -> f.trace(well, tracer), () -> {
            long[] b = m.blocks.get((int) m.wells.get(well)[0]);
            b[3] += tracer;
            return b[3];
        });
    }

    private void clean() {
        int well = aWell();
        Class<?> due = null;
        if (!isWell(well)) {
            due = Check.INDEX;
        } else if (m.coins[ownerOf(well)] < 5 * m.wells.get(well)[3]) {
            due = Check.STATE;
        }
        same("clean", due, () -> f.clean(well), () -> {
            long[] w = m.wells.get(well);
            long scale = w[3];
            m.coins[ownerOf(well)] -= 5 * scale;
            w[3] = 0;
            w[4] = 0;
            return scale;
        });
    }

    private int ownerOf(int well) {
        return (int) m.blocks.get((int) m.wells.get(well)[0])[5];
    }

    private void plant() {
        int size = number(0, 99);
        int need = number(0, 999);
        if (below(2) == 0) {
            same("turbine", in(size, 0, 99) ? null : Check.ARGUMENT, () -> f.turbine(size), () -> {
                long before = m.size;
                m.size = size;
                m.running = true;
                return before;
            });
        } else {
            same("town", in(need, 0, 999) ? null : Check.ARGUMENT, () -> f.town(need), () -> {
                long before = m.need;
                m.need = need;
                return before;
            });
        }
    }

    private void run() {
        int steps = number(1, below(3) == 0 ? 30 : 3);
        same("run", in(steps, 1, 30) ? null : Check.ARGUMENT, () -> f.run(steps), () -> m.run(steps));
    }

    private void ask(int kind) {
        int well = aWell();
        int steps = number(1, 30);
        int few = number(1, 12);
        int warmth = number(0, 400);
        int spring = number(0, Math.max(0, m.springs.size() - 1));
        switch (kind) {
            case 0:
                same("wouldGive", in(steps, 1, 30) ? null : Check.ARGUMENT, () -> f.wouldGive(steps),
                    () -> m.wouldGive(steps));
                break;
            case 1:
                same("coldIn", !isWell(well) ? Check.INDEX : !in(warmth, 0, 400) ? Check.ARGUMENT : null,
                    () -> f.coldIn(well, warmth), () -> m.coldIn(well, warmth));
                break;
            case 2:
                same("causedBy", !isWell(well) || !in(spring, 0, m.springs.size() - 1) ? Check.INDEX
                    : !in(steps, 1, 30) ? Check.ARGUMENT : null,
                    () -> f.causedBy(spring, well, steps), () -> m.causedBy(spring, well, steps));
                break;
            case 3:
                same("bestValves", in(few, 1, 12) ? null : Check.ARGUMENT, () -> f.bestValves(few),
                    () -> m.bestValves(few));
                break;
            case 4:
                Check.due("digest", f.digest(), AskTest.digestOf(f));
                break;
            default:
                everything();
        }
    }

    private void everything() {
        for (int what = 0; what <= 12; what++) {
            Check.due("many(" + what + ")", f.many(what), m.many(what));
        }
        for (int what = 0; what <= 6; what++) {
            Check.due("mass(" + what + ")", f.mass(what), m.mass(what));
        }
        for (int what = 0; what <= 3; what++) {
            Check.due("pond(" + what + ")", f.pond(what), m.pond[what]);
        }
        for (int owner = 0; owner <= 1; owner++) {
            Check.due("coins of " + owner, f.ofOwner(owner, 0), m.coins[owner]);
            Check.due("share of " + owner, f.ofOwner(owner, 1), m.share(owner));
        }
        for (int block = 0; block < m.blocks.size(); block++) {
            for (int what = 0; what <= 5; what++) {
                Check.due("ofBlock(" + block + ", " + what + ")", f.ofBlock(block, what), m.ofBlock(block, what));
            }
        }
        for (int well = 0; well < m.wells.size(); well++) {
            for (int what = 0; what <= 8; what++) {
                Check.due("ofWell(" + well + ", " + what + ")", f.ofWell(well, what), m.wells.get(well)[what]);
            }
        }
        for (int face = 0; face < m.faces.size(); face++) {
            Check.due("flow of face " + face, f.ofFace(face, true), m.faces.get(face)[3]);
            Check.due("open of face " + face, f.ofFace(face, false), m.faces.get(face)[2]);
        }
        for (int spring = 0; spring < m.springs.size(); spring++) {
            for (int what = 0; what <= 3; what++) {
                Check.due("ofSpring(" + spring + ", " + what + ")", f.ofSpring(spring, what),
                    m.springs.get(spring)[what]);
            }
        }
        Check.due("isClosed", f.isClosed(), true);
        Check.due("meanWarmth", f.meanWarmth() == m.meanWarmth(), true);
    }
}
