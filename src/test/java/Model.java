import java.util.ArrayList;
import java.util.List;

/**
 * A second field, written from the document by itself, in long numbers that may not overflow
 * and with a new object for each question: slow and plain, to be compared with Steamfield.
 */
final class Model {
    final List<long[]> blocks = new ArrayList<>();
    final List<long[]> faces = new ArrayList<>();
    final List<long[]> wells = new ArrayList<>();
    final List<long[]> springs = new ArrayList<>();
    final List<Long> shocks = new ArrayList<>();
    long[] pond = new long[4];
    long[] coins = {100, 100};
    long told;
    long used;
    long vented;
    long spilled;
    long sprung;
    long size = 20;
    boolean running = true;
    long need;
    long power;
    long powerEver;
    long townHeat;

    // A block is mass, heat, salt, tracer, volume, owner; a face one, other, open, flow; a well its
    // block, kind, valve, scale, crust, flow, steam, tracer, ever; a spring its flow, lack, both ever,
    // block, level, promise.

    Model copy() {
        Model m = new Model();
        blocks.forEach(b -> m.blocks.add(b.clone()));
        faces.forEach(b -> m.faces.add(b.clone()));
        wells.forEach(b -> m.wells.add(b.clone()));
        springs.forEach(b -> m.springs.add(b.clone()));
        m.shocks.addAll(shocks);
        m.pond = pond.clone();
        m.coins = coins.clone();
        m.told = told;
        m.used = used;
        m.vented = vented;
        m.spilled = spilled;
        m.sprung = sprung;
        m.size = size;
        m.running = running;
        m.need = need;
        m.power = power;
        m.powerEver = powerEver;
        m.townHeat = townHeat;
        return m;
    }

    static long times(long a, long b) {
        return Math.multiplyExact(a, b);
    }

    static long pressure(long[] b) {
        return times(10, b[0]) / b[4];
    }

    static long warmth(long[] b) {
        return b[1] / (b[4] + b[0]);
    }

    long block(long volume, long owner, long mass, long warmth, long salt) {
        blocks.add(new long[] {mass, times(warmth, volume + mass), salt, 0, volume, owner});
        told += mass;
        return blocks.size() - 1;
    }

    long[] take(long[] b, long m) {
        m = Math.min(m, b[0] / 4);
        long[] t = {m, times(m, warmth(b)), 0, 0};
        if (b[0] > 0) {
            t[2] = times(m, b[2]) / b[0];
            t[3] = times(m, b[3]) / b[0];
        }
        for (int i = 0; i < 4; i++) {
            b[i] -= t[i];
        }
        return t;
    }

    static void put(long[] b, long[] t) {
        for (int i = 0; i < 4; i++) {
            b[i] += t[i];
        }
    }

    long[] drain(long m) {
        long[] t = {m, 0, 0, 0};
        for (int i = 1; i < 4 && m > 0; i++) {
            t[i] = times(m, pond[i]) / pond[0];
        }
        for (int i = 0; i < 4; i++) {
            pond[i] -= t[i];
        }
        return t;
    }

    long light() {
        long sum = 0;
        for (int i = Math.max(0, shocks.size() - 4); i < shocks.size(); i++) {
            sum += shocks.get(i);
        }
        return sum < 10 ? 0 : sum < 25 ? 1 : 2;
    }

    void step() {
        long light = light();
        for (long[] f : faces) {
            face(f);
        }
        long steam = 0;
        for (long[] w : wells) {
            steam += w[1] == 0 ? produce(w) : 0;
        }
        long use = running ? Math.min(steam, size) : 0;
        power = 2 * use;
        powerEver += power;
        used += use;
        vented += steam - use;
        if (running && size > 0 && steam > 2 * size) {
            running = false;
        }
        townHeat = Math.max(0, Math.min(need, pond[1] - 30 * pond[0]));
        pond[1] -= townHeat;
        if (pond[0] > 500) {
            spilled += drain(pond[0] - 500)[0];
        }
        long shock = 0;
        for (long[] w : wells) {
            shock += w[1] == 1 ? inject(w, light) : 0;
        }
        shocks.add(shock);
        for (long[] s : springs) {
            long[] b = blocks.get((int) s[4]);
            s[0] = take(b, Math.max(0, pressure(b) - s[5]) / 5)[0];
            s[1] = Math.max(0, s[6] - s[0]);
            s[2] += s[0];
            s[3] += s[1];
            sprung += s[0];
        }
        pay();
    }

    private void face(long[] f) {
        long[] one = blocks.get((int) f[0]);
        long[] other = blocks.get((int) f[1]);
        long ahead = Math.abs(pressure(one) - pressure(other));
        if (pressure(one) >= pressure(other)) {
            long[] t = take(one, times(ahead, f[2]) / 20);
            put(other, t);
            f[3] = t[0];
        } else {
            long[] t = take(other, times(ahead, f[2]) / 20);
            put(one, t);
            f[3] = -t[0];
        }
        long heat = times(Math.abs(warmth(one) - warmth(other)), f[2]);
        boolean oneWarmer = warmth(one) > warmth(other);
        one[1] += oneWarmer ? -heat : heat;
        other[1] += oneWarmer ? heat : -heat;
        if (ahead >= 50 && f[2] < 9) {
            f[2]++;
        }
    }

    private long produce(long[] w) {
        long[] b = blocks.get((int) w[0]);
        long warm = warmth(b);
        long[] t = take(b, times(Math.max(0, pressure(b) - 40 - 3 * w[3]), w[2]) / 20);
        long steam = Math.min(t[0], times(t[0], Math.max(0, warm - 100)) / 400);
        long brine = t[0] - steam;
        put(pond, new long[] {brine, times(brine, Math.min(warm, 100)), t[2], t[3]});
        if (10 * t[2] > 30 * brine) {
            w[4]++;
            if (w[4] == 5) {
                w[4] = 0;
                w[3] = Math.min(9, w[3] + 1);
            }
        }
        w[5] = t[0];
        w[6] = steam;
        w[7] = t[3];
        w[8] += t[0];
        return steam;
    }

    private long inject(long[] w, long light) {
        long[] b = blocks.get((int) w[0]);
        long m = Math.min(pond[0], light == 0 ? 4 * w[2] : light == 1 ? 2 * w[2] : 0);
        long before = pressure(b);
        long[] t = drain(m);
        put(b, t);
        w[5] = m;
        w[6] = 0;
        w[7] = t[3];
        w[8] += m;
        long more = pressure(b) - before;
        return more >= 5 ? more : 0;
    }

    private void pay() {
        long sum = 3 * power + townHeat / 100;
        long first = blocks.isEmpty() ? 0 : sum * share(0) / (share(0) + share(1));
        coins[0] += first;
        coins[1] += sum - first;
        for (long[] s : springs) {
            int owner = (int) blocks.get((int) s[4])[5];
            coins[owner] -= 2 * s[1];
            coins[1 - owner] -= s[1];
        }
    }

    long share(int owner) {
        return blocks.stream().filter(b -> b[5] == owner).mapToLong(b -> b[4]).sum();
    }

    long run(long steps) {
        long sum = 0;
        for (long i = 0; i < steps; i++) {
            step();
            sum += power;
        }
        return sum;
    }

    long ofBlock(int block, int what) {
        long[] b = blocks.get(block);
        return what < 4 ? b[what] : what == 4 ? pressure(b) : warmth(b);
    }

    long mass(int what) {
        long inBlocks = blocks.stream().mapToLong(b -> b[0]).sum();
        return new long[] {told, inBlocks, pond[0], used, vented, spilled, sprung}[what];
    }

    long lackedEver() {
        return springs.stream().mapToLong(s -> s[3]).sum();
    }

    long many(int what) {
        long lastShock = shocks.isEmpty() ? 0 : shocks.get(shocks.size() - 1);
        return new long[] {blocks.size(), faces.size(), wells.size(), springs.size(), shocks.size(), light(), lastShock,
            running ? 1 : 0, size, power, powerEver, townHeat, lackedEver()}[what];
    }

    double meanWarmth() {
        long volumes = share(0) + share(1);
        return blocks.isEmpty() ? 0 : (double) blocks.stream().mapToLong(b -> warmth(b) * b[4]).sum() / volumes;
    }

    long wouldGive(long steps) {
        return copy().run(steps);
    }

    long coldIn(int well, long warmth) {
        Model m = copy();
        for (int steps = 0; steps <= 30; steps++) {
            if (warmth(m.blocks.get((int) m.wells.get(well)[0])) <= warmth) {
                return steps;
            }
            m.step();
        }
        return -1;
    }

    long causedBy(int spring, int well, long steps) {
        Model as = copy();
        Model shut = copy();
        shut.wells.get(well)[2] = 0;
        as.run(steps);
        shut.run(steps);
        return shut.springs.get(spring)[2] - as.springs.get(spring)[2];
    }

    long bestValves(long steps) {
        long best = 0;
        long bestWorth = Long.MIN_VALUE;
        for (int tried = 0; tried < 16; tried++) {
            long producers = tried / 4 * 3;
            long injectors = tried % 4 * 3;
            Model m = copy();
            m.wells.forEach(w -> w[2] = w[1] == 1 ? injectors : producers);
            long worth = m.run(steps) - 3 * (m.lackedEver() - lackedEver());
            if (worth > bestWorth) {
                best = 10 * producers + injectors;
                bestWorth = worth;
            }
        }
        return best;
    }
}
