/**
 * A field of hot water under a land: blocks of rock with faces between them, wells and springs,
 * a plant with a turbine and a pond, a town, and two owners who share it all.
 */
public final class Steamfield {
    private static final int NONE = -1;

    private static final int MOST_BLOCKS = 8;
    private static final int MOST_FACES = 12;
    private static final int MOST_WELLS = 6;
    private static final int MOST_SPRINGS = 3;
    private static final int OWNERS = 2;
    private static final int MOST_OPEN = 9;
    private static final int MOST_VALVE = 9;
    private static final int VALVE_STRIDE = 3;
    private static final int MOST_SCALE = 9;
    private static final int CRUSTS_FOR_A_SCALE = 5;
    private static final int MOST_WARMTH = 400;
    private static final int MOST_SIZE = 99;
    private static final int MOST_NEED = 999;
    private static final int MOST_STEPS = 30;
    private static final int MOST_SEARCH_STEPS = 12;
    private static final int POND_HOLDS = 500;
    private static final int CLEANING_COINS = 5;
    private static final int GREEN = 0;
    private static final int YELLOW = 1;
    private static final int RED = 2;
    /** A power of two, so that a mask makes any step number a place in the row of shocks. */
    private static final int SHOCKS_KEPT = 4;

    private static final int WHATS_OF_BLOCK = 6;
    private static final int WHATS_OF_WELL = 9;
    private static final int WHATS_OF_SPRING = 4;
    private static final int WHATS_OF_POND = 4;
    private static final int WHATS_OF_OWNER = 2;
    private static final int WHATS_OF_MASS = 7;
    private static final int WHATS_OF_MANY = 13;

    private static final long DIGEST_START = 58177L;
    private static final int DIGEST_COLD_WARMTH = 100;
    private static final int DIGEST_CAUSE_STEPS = 3;
    private static final int DIGEST_GIVE_STEPS = 4;
    private static final int DIGEST_SEARCH_STEPS = 3;

    private final Land land;
    /** One other land for all questions of what would be: a new one for each would fill the room. */
    private final Land trial;

    /** Creates a field without blocks. */
    public Steamfield() {
        land = new Land();
        trial = new Land();
    }

    // ---- what is told

    /** Tells a block; answers its number. */
    public int block(int volume, int owner, int mass, int warmth, int salt)
            throws IllegalArgumentException, IllegalStateException {
        needRange(volume, 10, 99);
        needRange(owner, 0, OWNERS - 1);
        needRange(mass, 0, 2000);
        needRange(warmth, 0, MOST_WARMTH);
        needRange(salt, 0, 9999);
        needRoom(land.blockCount, MOST_BLOCKS);
        int number = land.blockCount;
        Block told = land.blocks[number];
        told.volume = volume;
        told.owner = owner;
        told.water.mass = mass;
        told.water.heat = warmth * (volume + mass);
        told.water.salt = salt;
        land.books.told.add(told.water);
        land.blockCount = number + 1;
        return number;
    }

    /** Tells a face between two blocks; answers its number. */
    public int face(int one, int other, int open)
            throws IndexOutOfBoundsException, IllegalArgumentException, IllegalStateException {
        needIndex(one, land.blockCount);
        needIndex(other, land.blockCount);
        if (one == other) {
            throw new IllegalArgumentException("a face lies between two blocks");
        }
        needRange(open, 1, MOST_OPEN);
        needRoom(land.faceCount, MOST_FACES);
        int number = land.faceCount;
        Face told = land.faces[number];
        told.one = one;
        told.other = other;
        told.open = open;
        land.faceCount = number + 1;
        return number;
    }

    /** Tells a well in a block; answers its number. */
    public int well(int block, boolean isInjector) throws IndexOutOfBoundsException, IllegalStateException {
        needIndex(block, land.blockCount);
        needRoom(land.wellCount, MOST_WELLS);
        int number = land.wellCount;
        Well told = land.wells[number];
        told.block = block;
        told.isInjector = isInjector;
        land.wellCount = number + 1;
        return number;
    }

    /** Tells a spring of a block; answers its number. */
    public int spring(int block, int level, int promise)
            throws IndexOutOfBoundsException, IllegalArgumentException, IllegalStateException {
        needIndex(block, land.blockCount);
        needRange(level, 0, 300);
        needRange(promise, 0, 50);
        needRoom(land.springCount, MOST_SPRINGS);
        int number = land.springCount;
        Spring told = land.springs[number];
        told.block = block;
        told.level = level;
        told.promise = promise;
        land.springCount = number + 1;
        return number;
    }

    /** Turns the valve of a well; answers where it stood before. */
    public int valve(int well, int valve) throws IndexOutOfBoundsException, IllegalArgumentException {
        needIndex(well, land.wellCount);
        needRange(valve, 0, MOST_VALVE);
        int before = land.wells[well].valve;
        land.wells[well].valve = valve;
        return before;
    }

    /** Puts tracer into the block of a well; answers how much that block has then. */
    public int trace(int well, int tracer)
            throws IndexOutOfBoundsException, IllegalArgumentException, IllegalStateException {
        needIndex(well, land.wellCount);
        needRange(tracer, 1, 999);
        Water water = land.blocks[land.wells[well].block].water;
        if (water.mass <= 0) {
            throw new IllegalStateException("the block has no mass");
        }
        water.tracer += tracer;
        land.books.told.tracer += tracer;
        return water.tracer;
    }

    /** Cleans a well for coins of the owner of its block; answers its scale before. */
    public int clean(int well) throws IndexOutOfBoundsException, IllegalStateException {
        needIndex(well, land.wellCount);
        Well cleaned = land.wells[well];
        int owner = land.blocks[cleaned.block].owner;
        int price = CLEANING_COINS * cleaned.scale;
        if (land.coins[owner] < price) {
            throw new IllegalStateException("the owner has less");
        }
        int before = cleaned.scale;
        land.coins[owner] -= price;
        cleaned.scale = 0;
        cleaned.crust = 0;
        return before;
    }

    /** Tells the size of the turbine, which runs then; answers its size before. */
    public int turbine(int size) throws IllegalArgumentException {
        needRange(size, 0, MOST_SIZE);
        int before = land.plant.size;
        land.plant.size = size;
        land.plant.isRunning = true;
        return before;
    }

    /** Tells the need of the town; answers that before. */
    public int town(int need) throws IllegalArgumentException {
        needRange(need, 0, MOST_NEED);
        int before = land.plant.need;
        land.plant.need = need;
        return before;
    }

    // ---- what goes on

    /** Does steps; answers the power of all these together. */
    public int run(int steps) throws IllegalArgumentException {
        needRange(steps, 1, MOST_STEPS);
        return powerIn(land, steps);
    }

    // ---- what is asked

    /** Of a block: 0 mass, 1 heat, 2 salt, 3 tracer, 4 pressure, 5 warmth. */
    public int ofBlock(int block, int what) throws IndexOutOfBoundsException, IllegalArgumentException {
        needIndex(block, land.blockCount);
        needRange(what, 0, WHATS_OF_BLOCK - 1);
        Block asked = land.blocks[block];
        switch (what) {
            case 4:
                return asked.pressure();
            case 5:
                return asked.warmth();
            default:
                return asked.water.part(what);
        }
    }

    /** Of a well: its block, its kind, valve, scale, crust, what it gave in the last step and ever. */
    public int ofWell(int well, int what) throws IndexOutOfBoundsException, IllegalArgumentException {
        needIndex(well, land.wellCount);
        needRange(what, 0, WHATS_OF_WELL - 1);
        Well asked = land.wells[well];
        switch (what) {
            case 0:
                return asked.block;
            case 1:
                return asked.isInjector ? 1 : 0;
            case 2:
                return asked.valve;
            case 3:
                return asked.scale;
            case 4:
                return asked.crust;
            case 5:
                return asked.flow;
            case 6:
                return asked.steam;
            case 7:
                return asked.tracer;
            default:
                return asked.flowEver;
        }
    }

    /** Of a spring: 0 its flow of the last step, 1 what it lacked then, 2 and 3 the same ever. */
    public int ofSpring(int spring, int what) throws IndexOutOfBoundsException, IllegalArgumentException {
        needIndex(spring, land.springCount);
        needRange(what, 0, WHATS_OF_SPRING - 1);
        Spring asked = land.springs[spring];
        switch (what) {
            case 0:
                return asked.flow;
            case 1:
                return asked.lacked;
            case 2:
                return asked.flowEver;
            default:
                return asked.lackedEver;
        }
    }

    /** Of a face: what went through it in the last step, or how far it is open. */
    public int ofFace(int face, boolean isFlow) throws IndexOutOfBoundsException {
        needIndex(face, land.faceCount);
        return isFlow ? land.faces[face].flow : land.faces[face].open;
    }

    /** Of the pond: 0 mass, 1 heat, 2 salt, 3 tracer. */
    public int pond(int what) throws IllegalArgumentException {
        needRange(what, 0, WHATS_OF_POND - 1);
        return land.pond.part(what);
    }

    /** Of an owner: 0 coins, 1 its share. */
    public int ofOwner(int owner, int what) throws IndexOutOfBoundsException, IllegalArgumentException {
        needIndex(owner, OWNERS);
        needRange(what, 0, WHATS_OF_OWNER - 1);
        return what == 0 ? land.coins[owner] : land.shareOf(owner);
    }

    /** Of all mass: 0 told, 1 in blocks, 2 in the pond, 3 used, 4 vented, 5 spilled, 6 from springs. */
    public int mass(int what) throws IllegalArgumentException {
        needRange(what, 0, WHATS_OF_MASS - 1);
        switch (what) {
            case 0:
                return land.books.told.mass;
            case 1:
                return land.inBlocks(Water.MASS);
            case 2:
                return land.pond.mass;
            case 3:
                return land.books.used;
            case 4:
                return land.books.vented;
            case 5:
                return land.books.spilled.mass;
            default:
                return land.books.sprung.mass;
        }
    }

    /** Whether all mass, salt and tracer that were told are accounted for. */
    public boolean isClosed() {
        int steam = land.books.used + land.books.vented;
        return land.books.told.mass == land.accountedFor(Water.MASS) + steam
                && land.books.told.salt == land.accountedFor(Water.SALT)
                && land.books.told.tracer == land.accountedFor(Water.TRACER);
    }

    /** How many of what, and how the plant stands. */
    public int many(int what) throws IllegalArgumentException {
        needRange(what, 0, WHATS_OF_MANY - 1);
        switch (what) {
            case 0:
                return land.blockCount;
            case 1:
                return land.faceCount;
            case 2:
                return land.wellCount;
            case 3:
                return land.springCount;
            case 4:
                return land.now;
            case 5:
                return land.light();
            case 6:
                return land.lastShock();
            case 7:
                return land.plant.isRunning ? 1 : 0;
            case 8:
                return land.plant.size;
            case 9:
                return land.plant.power;
            case 10:
                return land.plant.powerEver;
            case 11:
                return land.plant.townHeat;
            default:
                return land.lackedEver();
        }
    }

    /** The mean warmth of the blocks, by volume, not cut; 0 without any. */
    public double meanWarmth() {
        long sum = 0;
        long volumes = 0;
        for (int i = 0; i < land.blockCount; i++) {
            Block block = land.blocks[i];
            sum += (long) block.warmth() * block.volume;
            volumes += block.volume;
        }
        return volumes > 0 ? (double) sum / (double) volumes : 0.0;
    }

    // ---- what would be (nothing is changed)

    /** The power that run would tell. */
    public int wouldGive(int steps) throws IllegalArgumentException {
        needRange(steps, 1, MOST_STEPS);
        trial.copyFrom(land);
        return powerIn(trial, steps);
    }

    /** In how many steps the block of a well would be so cold; -1, if not in 30. */
    public int coldIn(int well, int warmth) throws IndexOutOfBoundsException, IllegalArgumentException {
        needIndex(well, land.wellCount);
        needRange(warmth, 0, MOST_WARMTH);
        trial.copyFrom(land);
        Block block = trial.blocks[trial.wells[well].block];
        int steps = 0;
        while (steps < MOST_STEPS && block.warmth() > warmth) {
            trial.step();
            steps++;
        }
        return block.warmth() <= warmth ? steps : NONE;
    }

    /** How much more a spring would flow, if the valve of a well was 0. */
    public int causedBy(int spring, int well, int steps)
            throws IndexOutOfBoundsException, IllegalArgumentException {
        needIndex(spring, land.springCount);
        needIndex(well, land.wellCount);
        needRange(steps, 1, MOST_STEPS);
        trial.copyFrom(land);
        powerIn(trial, steps);
        int flowAsItIs = trial.springs[spring].flowEver;
        trial.copyFrom(land);
        trial.wells[well].valve = 0;
        powerIn(trial, steps);
        return trial.springs[spring].flowEver - flowAsItIs;
    }

    /** The best valves for so many steps: 10 times that of producers and that of injectors. */
    public int bestValves(int steps) throws IllegalArgumentException {
        needRange(steps, 1, MOST_SEARCH_STEPS);
        int lackedBefore = land.lackedEver();
        int best = NONE;
        int bestWorth = 0;
        // From the smallest number on, so that of several the smallest one stays.
        for (int producers = 0; producers <= MOST_VALVE; producers += VALVE_STRIDE) {
            for (int injectors = 0; injectors <= MOST_VALVE; injectors += VALVE_STRIDE) {
                trial.copyFrom(land);
                trial.turnAll(producers, injectors);
                int power = powerIn(trial, steps);
                int worth = power - 3 * (trial.lackedEver() - lackedBefore);
                if (best == NONE || worth > bestWorth) {
                    best = 10 * producers + injectors;
                    bestWorth = worth;
                }
            }
        }
        return best;
    }

    /** A checksum of all that can be asked. */
    public long digest() {
        long d = DIGEST_START;
        for (int what = 0; what < WHATS_OF_MANY; what++) {
            d = d * 31 + many(what);
        }
        for (int block = 0; block < land.blockCount; block++) {
            for (int what = 0; what < WHATS_OF_BLOCK; what++) {
                d = d * 31 + ofBlock(block, what);
            }
        }
        for (int well = 0; well < land.wellCount; well++) {
            for (int what = 0; what < WHATS_OF_WELL; what++) {
                d = d * 31 + ofWell(well, what);
            }
            d = d * 31 + coldIn(well, DIGEST_COLD_WARMTH);
        }
        for (int face = 0; face < land.faceCount; face++) {
            d = d * 31 + ofFace(face, true);
            d = d * 31 + ofFace(face, false);
        }
        for (int spring = 0; spring < land.springCount; spring++) {
            for (int what = 0; what < WHATS_OF_SPRING; what++) {
                d = d * 31 + ofSpring(spring, what);
            }
            for (int well = 0; well < land.wellCount; well++) {
                d = d * 31 + causedBy(spring, well, DIGEST_CAUSE_STEPS);
            }
        }
        for (int what = 0; what < WHATS_OF_POND; what++) {
            d = d * 31 + pond(what);
        }
        for (int owner = 0; owner < OWNERS; owner++) {
            for (int what = 0; what < WHATS_OF_OWNER; what++) {
                d = d * 31 + ofOwner(owner, what);
            }
        }
        for (int what = 0; what < WHATS_OF_MASS; what++) {
            d = d * 31 + mass(what);
        }
        d = d * 31 + (isClosed() ? 1 : 0);
        d = d * 31 + wouldGive(DIGEST_GIVE_STEPS);
        return d * 31 + bestValves(DIGEST_SEARCH_STEPS);
    }

    // ---- what the calls share

    private static void needRange(int value, int least, int most) {
        if (value < least || value > most) {
            throw new IllegalArgumentException("a number is out of its range");
        }
    }

    private static void needIndex(int index, int count) {
        if (index < 0 || index >= count) {
            throw new IndexOutOfBoundsException("there is no such number");
        }
    }

    private static void needRoom(int count, int most) {
        if (count >= most) {
            throw new IllegalStateException("there are no more to tell");
        }
    }

    private static int powerIn(Land land, int steps) {
        int before = land.plant.powerEver;
        for (int i = 0; i < steps; i++) {
            land.step();
        }
        return land.plant.powerEver - before;
    }

    /** Water with what it carries: in a block, in the pond, on its way, or in the books. */
    private static final class Water {
        private static final int MASS = 0;
        private static final int HEAT = 1;
        private static final int SALT = 2;
        private static final int TRACER = 3;

        private int mass;
        private int heat;
        private int salt;
        private int tracer;

        void copyFrom(Water from) {
            mass = from.mass;
            heat = from.heat;
            salt = from.salt;
            tracer = from.tracer;
        }

        void add(Water more) {
            mass += more.mass;
            heat += more.heat;
            salt += more.salt;
            tracer += more.tracer;
        }

        void remove(Water less) {
            mass -= less.mass;
            heat -= less.heat;
            salt -= less.salt;
            tracer -= less.tracer;
        }

        int part(int what) {
            switch (what) {
                case MASS:
                    return mass;
                case HEAT:
                    return heat;
                case SALT:
                    return salt;
                default:
                    return tracer;
            }
        }

        /** What m of the mass has of an amount; a long, as much tracer times much mass passes an int. */
        int shareOf(int amount, int m) {
            return mass > 0 ? (int) ((long) m * amount / mass) : 0;
        }
    }

    private static final class Block {
        private final Water water = new Water();
        private int volume;
        private int owner;

        void copyFrom(Block from) {
            water.copyFrom(from.water);
            volume = from.volume;
            owner = from.owner;
        }

        int pressure() {
            return volume > 0 ? 10 * water.mass / volume : 0;
        }

        int warmth() {
            int all = volume + water.mass;
            return all > 0 ? water.heat / all : 0;
        }

        /** Takes m of the mass, a quarter at most, with all it carries, into the load. */
        void take(int m, Water load) {
            int taken = Math.min(m, water.mass / 4);
            load.mass = taken;
            load.heat = taken * warmth();
            load.salt = water.shareOf(water.salt, taken);
            load.tracer = water.shareOf(water.tracer, taken);
            water.remove(load);
        }
    }

    private static final class Face {
        private int one;
        private int other;
        private int open;
        private int flow;

        void copyFrom(Face from) {
            one = from.one;
            other = from.other;
            open = from.open;
            flow = from.flow;
        }
    }

    private static final class Well {
        private int block;
        private boolean isInjector;
        private int valve;
        private int scale;
        private int crust;
        private int flow;
        private int steam;
        private int tracer;
        private int flowEver;

        void copyFrom(Well from) {
            block = from.block;
            isInjector = from.isInjector;
            valve = from.valve;
            scale = from.scale;
            crust = from.crust;
            flow = from.flow;
            steam = from.steam;
            tracer = from.tracer;
            flowEver = from.flowEver;
        }

        void note(Water load, int steamOfIt) {
            flow = load.mass;
            steam = steamOfIt;
            tracer = load.tracer;
            flowEver += load.mass;
        }

        void growCrust() {
            crust++;
            if (crust >= CRUSTS_FOR_A_SCALE) {
                crust = 0;
                scale = Math.min(scale + 1, MOST_SCALE);
            }
        }
    }

    private static final class Spring {
        private int block;
        private int level;
        private int promise;
        private int flow;
        private int lacked;
        private int flowEver;
        private int lackedEver;

        void copyFrom(Spring from) {
            block = from.block;
            level = from.level;
            promise = from.promise;
            flow = from.flow;
            lacked = from.lacked;
            flowEver = from.flowEver;
            lackedEver = from.lackedEver;
        }

        void note(int flowed) {
            flow = flowed;
            lacked = Math.max(promise - flowed, 0);
            flowEver += flow;
            lackedEver += lacked;
        }
    }

    /** The turbine and the town, with what they had in the last step. */
    private static final class Plant {
        private int size = 20;
        private boolean isRunning = true;
        private int power;
        private int powerEver;
        private int need;
        private int townHeat;

        void copyFrom(Plant from) {
            size = from.size;
            isRunning = from.isRunning;
            power = from.power;
            powerEver = from.powerEver;
            need = from.need;
            townHeat = from.townHeat;
        }
    }

    /** What was told, and where it went that is not under the land any more. */
    private static final class Books {
        private final Water told = new Water();
        private final Water spilled = new Water();
        private final Water sprung = new Water();
        private int used;
        private int vented;

        void copyFrom(Books from) {
            told.copyFrom(from.told);
            spilled.copyFrom(from.spilled);
            sprung.copyFrom(from.sprung);
            used = from.used;
            vented = from.vented;
        }
    }

    /** All that a step changes. Its rows are made once and stand ready for what is told. */
    private static final class Land {
        private final Block[] blocks = new Block[MOST_BLOCKS];
        private final Face[] faces = new Face[MOST_FACES];
        private final Well[] wells = new Well[MOST_WELLS];
        private final Spring[] springs = new Spring[MOST_SPRINGS];
        private final Water pond = new Water();
        private final Plant plant = new Plant();
        private final Books books = new Books();
        private final int[] coins = new int[OWNERS];
        private final int[] shocks = new int[SHOCKS_KEPT];
        /** What is on its way from one place to another. */
        private final Water load = new Water();
        private int blockCount;
        private int faceCount;
        private int wellCount;
        private int springCount;
        private int now;

        Land() {
            for (int i = 0; i < MOST_BLOCKS; i++) {
                blocks[i] = new Block();
            }
            for (int i = 0; i < MOST_FACES; i++) {
                faces[i] = new Face();
            }
            for (int i = 0; i < MOST_WELLS; i++) {
                wells[i] = new Well();
            }
            for (int i = 0; i < MOST_SPRINGS; i++) {
                springs[i] = new Spring();
            }
            for (int i = 0; i < OWNERS; i++) {
                coins[i] = 100;
            }
        }

        void copyFrom(Land from) {
            for (int i = 0; i < MOST_BLOCKS; i++) {
                blocks[i].copyFrom(from.blocks[i]);
            }
            for (int i = 0; i < MOST_FACES; i++) {
                faces[i].copyFrom(from.faces[i]);
            }
            for (int i = 0; i < MOST_WELLS; i++) {
                wells[i].copyFrom(from.wells[i]);
            }
            for (int i = 0; i < MOST_SPRINGS; i++) {
                springs[i].copyFrom(from.springs[i]);
            }
            pond.copyFrom(from.pond);
            plant.copyFrom(from.plant);
            books.copyFrom(from.books);
            System.arraycopy(from.coins, 0, coins, 0, OWNERS);
            System.arraycopy(from.shocks, 0, shocks, 0, SHOCKS_KEPT);
            blockCount = from.blockCount;
            faceCount = from.faceCount;
            wellCount = from.wellCount;
            springCount = from.springCount;
            now = from.now;
        }

        int light() {
            int sum = 0;
            for (int i = 0; i < SHOCKS_KEPT; i++) {
                sum += shocks[i];
            }
            if (sum < 10) {
                return GREEN;
            }
            return sum < 25 ? YELLOW : RED;
        }

        int lastShock() {
            return shocks[now & (SHOCKS_KEPT - 1)];
        }

        int shareOf(int owner) {
            int share = 0;
            for (int i = 0; i < blockCount; i++) {
                if (blocks[i].owner == owner) {
                    share += blocks[i].volume;
                }
            }
            return share;
        }

        int lackedEver() {
            int sum = 0;
            for (int i = 0; i < springCount; i++) {
                sum += springs[i].lackedEver;
            }
            return sum;
        }

        int inBlocks(int part) {
            int sum = 0;
            for (int i = 0; i < blockCount; i++) {
                sum += blocks[i].water.part(part);
            }
            return sum;
        }

        /** How much of it is in blocks and the pond, was spilled, or is gone with springs. */
        int accountedFor(int part) {
            return inBlocks(part) + pond.part(part) + books.spilled.part(part) + books.sprung.part(part);
        }

        void turnAll(int producers, int injectors) {
            for (int i = 0; i < wellCount; i++) {
                wells[i].valve = wells[i].isInjector ? injectors : producers;
            }
        }

        void step() {
            now++;
            int light = light();
            for (int i = 0; i < faceCount; i++) {
                flowThrough(faces[i]);
            }
            int steam = 0;
            for (int i = 0; i < wellCount; i++) {
                if (!wells[i].isInjector) {
                    steam += produce(wells[i]);
                }
            }
            drive(steam);
            warmTheTown();
            spill();
            int shock = 0;
            for (int i = 0; i < wellCount; i++) {
                if (wells[i].isInjector) {
                    shock += inject(wells[i], light);
                }
            }
            // This takes the place of the oldest shock, which the light above still counted.
            shocks[now & (SHOCKS_KEPT - 1)] = shock;
            for (int i = 0; i < springCount; i++) {
                letFlow(springs[i]);
            }
            shareOut();
            payForLacks();
        }

        private void flowThrough(Face face) {
            Block one = blocks[face.one];
            Block other = blocks[face.other];
            int difference = one.pressure() - other.pressure();
            Block upper = difference >= 0 ? one : other;
            Block lower = difference >= 0 ? other : one;
            int size = Math.abs(difference);
            upper.take(size * face.open / 20, load);
            lower.water.add(load);
            face.flow = difference >= 0 ? load.mass : -load.mass;
            // Below 0 it goes the other way, so that the warmer one gives in both cases.
            int heat = (one.warmth() - other.warmth()) * face.open;
            one.water.heat -= heat;
            other.water.heat += heat;
            if (size >= 50) {
                face.open = Math.min(face.open + 1, MOST_OPEN);
            }
        }

        /** Lets a producer flow; answers its steam. */
        private int produce(Well well) {
            Block block = blocks[well.block];
            int warmth = block.warmth();
            int drive = Math.max(block.pressure() - 40 - 3 * well.scale, 0);
            block.take(drive * well.valve / 20, load);
            int steam = Math.min(load.mass * Math.max(warmth - 100, 0) / 400, load.mass);
            int brine = load.mass - steam;
            well.note(load, steam);
            if (10 * load.salt > 30 * brine) {
                well.growCrust();
            }
            load.mass = brine;
            load.heat = brine * Math.min(warmth, 100);
            pond.add(load);
            return steam;
        }

        private void drive(int steam) {
            int used = plant.isRunning ? Math.min(steam, plant.size) : 0;
            plant.power = 2 * used;
            plant.powerEver += plant.power;
            books.used += used;
            books.vented += steam - used;
            if (steam > 2 * plant.size && plant.size > 0) {
                plant.isRunning = false;
            }
        }

        private void warmTheTown() {
            int spare = Math.max(pond.heat - 30 * pond.mass, 0);
            plant.townHeat = Math.min(plant.need, spare);
            pond.heat -= plant.townHeat;
        }

        private void spill() {
            drain(Math.max(pond.mass - POND_HOLDS, 0));
            books.spilled.add(load);
        }

        /** Lets m of mass out of the pond, with all it carries, into the load. */
        private void drain(int m) {
            load.mass = m;
            load.heat = pond.shareOf(pond.heat, m);
            load.salt = pond.shareOf(pond.salt, m);
            load.tracer = pond.shareOf(pond.tracer, m);
            pond.remove(load);
        }

        /** Lets an injector put brine down; answers the shock of it. */
        private int inject(Well well, int light) {
            int wanted = 4 * well.valve;
            if (light != GREEN) {
                wanted = light == YELLOW ? wanted / 2 : 0;
            }
            drain(Math.min(wanted, pond.mass));
            Block block = blocks[well.block];
            int before = block.pressure();
            block.water.add(load);
            well.note(load, 0);
            int rise = block.pressure() - before;
            return rise >= 5 ? rise : 0;
        }

        private void letFlow(Spring spring) {
            Block block = blocks[spring.block];
            block.take(Math.max(block.pressure() - spring.level, 0) / 5, load);
            books.sprung.add(load);
            spring.note(load.mass);
        }

        private void shareOut() {
            int sum = 3 * plant.power + plant.townHeat / 100;
            int shareOfFirst = shareOf(0);
            int shares = shareOfFirst + shareOf(1);
            int first = shares > 0 ? sum * shareOfFirst / shares : 0;
            coins[0] += first;
            coins[1] += sum - first;
        }

        private void payForLacks() {
            for (int i = 0; i < springCount; i++) {
                Spring spring = springs[i];
                int owner = blocks[spring.block].owner;
                coins[owner] -= 2 * spring.lacked;
                coins[1 - owner] -= spring.lacked;
            }
        }
    }
}
