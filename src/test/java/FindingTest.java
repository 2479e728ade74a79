import java.util.HashMap;
import java.util.Map;
import java.util.Random;

/** Part 5, and DATA, against a slow reading of the document byte by byte. */
public final class FindingTest {
    private static final int FETCH = 0, LOAD = 1, STORE = 2;
    private static final long TABLES = Rig.BASE + 0x20000, PAGES = Rig.BASE + 0x40000;
    private static final int TABLE_COUNT = 6, PAGE_COUNT = 4;
    private static final Rig rig = new Rig(1);
    private static final Random random = new Random(5);

    private static final int[] configs = new int[8];
    private static final long[] numbers = new long[8];
    private static final Map<Long, Long> marked = new HashMap<>();
    private static long table, physical;
    private static boolean sum, mxr;

    // The slow reading.

    private static boolean covers(int i, long at) {
        long n = numbers[i];
        switch (configs[i] >> 3 & 3) {
            case 1: return at >= (i == 0 ? 0 : 4 * numbers[i - 1]) && at < 4 * n;
            case 2: return at >= 4 * n && at < 4 * n + 4;
            case 3:
                int k = 0;
                while (k < 54 && (n >> k & 1) == 1) {
                    k++;
                }
                long begin = 4 * (n >> k << k);
                return at >= begin && at < begin + (1L << k + 3);
            default: return false;
        }
    }

    private static boolean letThrough(long at, int n, int access, int mode) {
        for (int i = 0; i < 8; i++) {
            int covered = 0;
            for (int j = 0; j < n; j++) {
                covered += covers(i, at + j) ? 1 : 0;
            }
            if (covered > 0) {
                int right = access == LOAD ? 1 : access == STORE ? 2 : 4;
                return covered == n && (mode == 3 && configs[i] < 128 || (configs[i] & right) != 0);
            }
        }
        return mode == 3;
    }

    private static boolean inMemory(long at) {
        return at >= Rig.BASE && at < Rig.BASE + 4194304;
    }

    private static long entryAt(long at) {
        return marked.containsKey(at) ? marked.get(at) : rig.machine.word(at);
    }

    private static int accessFault(int access) {
        return access == FETCH ? 1 : access == LOAD ? 5 : 7;
    }

    private static int pageFault(int access) {
        return access == FETCH ? 12 : access == LOAD ? 13 : 15;
    }

    private static boolean bit(long v, int i) {
        return (v >>> i & 1) == 1;
    }

    private static int find(long a, int n, int access, int mode) {
        long sort = table >>> 60;
        if (mode == 3 || sort == 0) {
            physical = a;
            if (a >>> 56 != 0) {
                return accessFault(access);
            }
        } else {
            int fault = translate(a, access, mode, sort == 8 ? 3 : 4);
            if (fault != 0) {
                return fault;
            }
        }
        return letThrough(physical, n, access, mode) ? 0 : accessFault(access);
    }

    private static int translate(long a, int access, int mode, int depths) {
        for (int i = 9 * depths + 11; i < 64; i++) {
            if (bit(a, i) != bit(a, 63)) {
                return pageFault(access);
            }
        }
        long page = table & (1L << 44) - 1;
        for (int i = depths - 1; i >= 0; i--) {
            long at = page * 4096 + 8 * (a >>> 12 + 9 * i & 511);
            if (!inMemory(at) || !letThrough(at, 8, LOAD, 1)) {
                return accessFault(access);
            }
            long e = entryAt(at);
            boolean v = bit(e, 0), r = bit(e, 1), w = bit(e, 2), x = bit(e, 3), u = bit(e, 4), used = bit(e, 6),
                    dirty = bit(e, 7);
            long number = e >>> 10 & (1L << 44) - 1;
            if (!v || w && !r || e >>> 54 != 0) {
                return pageFault(access);
            }
            if (!r && !x) {
                if (i == 0 || u || used || dirty) {
                    return pageFault(access);
                }
                page = number;
                continue;
            }
            if ((number & (1L << 9 * i) - 1) != 0 || mode == 0 && !u || mode == 1 && u && (access == FETCH || !sum)
                    || access == FETCH && !x || access == LOAD && !r && !(mxr && x) || access == STORE && !w) {
                return pageFault(access);
            }
            if (!used || access == STORE && !dirty) {
                if (!letThrough(at, 8, STORE, 1)) {
                    return accessFault(access);
                }
                marked.put(at, e | 64 | (access == STORE ? 128 : 0));
            }
            physical = number * 4096 | a & (1L << 12 + 9 * i) - 1;
            return 0;
        }
        return pageFault(access);
    }

    // What is due of data: cause 0 for none.

    private static int cause;
    private static long value;
    private static final long[] places = new long[8];
    private static boolean whole;

    private static void locate(long a, int n, int access, int mode) {
        whole = (a & 4095) + n <= 4096;
        cause = 0;
        value = 0;
        for (int i = 0; i < (whole ? 1 : n); i++) {
            cause = find(a + i, whole ? n : 1, access, mode);
            value = a + i;
            if (cause != 0) {
                return;
            }
            places[i] = physical;
        }
        boolean inEnd = whole && places[0] >= Rig.END && places[0] < Rig.END + 4096 && a % n == 0;
        for (int i = 0; i < n && !inEnd; i++) {
            if (!inMemory(whole ? places[0] + i : places[i])) {
                cause = accessFault(access);
                value = whole ? a : a + i;
                return;
            }
        }
        value = 0;
    }

    private static long dueLoad(int n) {
        long v = 0;
        for (int i = n - 1; i >= 0; i--) {
            long at = whole ? places[0] + i : places[i];
            v = v << 8 | (inMemory(at) ? rig.machine.sum(at, at + 1) : 0);
        }
        return v;
    }

    // Scenes.

    private static long anyEntry(int depth) {
        long page = random.nextInt(4) == 0 ? random.nextInt(TABLE_COUNT) + (TABLES >> 12)
                : random.nextInt(PAGE_COUNT) + (PAGES >> 12);
        int sort = random.nextInt(20);
        if (sort < 9 && depth > 0) {
            page = random.nextInt(TABLE_COUNT) + (TABLES >> 12);
            return page << 10 | 1 | (random.nextInt(12) == 0 ? 1L << 4 + random.nextInt(4) : 0);
        }
        if (depth > 0 && random.nextInt(3) > 0) {
            page = Rig.BASE >> 12;
        }
        if (sort == 18) {
            page = Rig.END >> 12;
        } else if (sort == 17) {
            page = random.nextInt(1 << 19);
        }
        long e = page << 10 | random.nextInt(256) & ~0L;
        if (random.nextInt(8) > 0) {
            e |= 3;
        }
        if (random.nextInt(2) > 0) {
            e |= 0xCE;
        }
        return random.nextInt(20) == 0 ? e | 1L << 54 + random.nextInt(10) : e;
    }

    private static final int[] SLOTS = {0, 1, 2, 256, 510, 511};

    private static void layTables(boolean plain) {
        for (int t = 0; t < TABLE_COUNT; t++) {
            int depth = t == 0 ? 3 : t == 1 ? 2 : t < 4 ? 1 : 0;
            for (int slot : SLOTS) {
                rig.longs(TABLES + 4096L * t + 8L * slot, anyEntry(depth));
            }
        }
        for (int p = 0; p < PAGE_COUNT; p++) {
            int[] words = new int[1024];
            for (int i = 0; i < 1024; i++) {
                words[i] = plain ? 115 << 16 : random.nextInt();
            }
            rig.words(PAGES + 4096L * p, words);
        }
    }

    private static long anyAddress() {
        long a = 0;
        for (int i = 0; i < 4; i++) {
            a = a << 9 | SLOTS[random.nextInt(SLOTS.length)];
        }
        int offset = random.nextInt(3) == 0 ? 4080 + random.nextInt(16) : random.nextInt(4096);
        a = a << 12 | offset;
        int depths = table >>> 60 == 9 ? 4 : 3;
        int sort = random.nextInt(16);
        if (sort == 0) {
            return a;
        }
        if (sort == 1) {
            return PAGES + random.nextInt(4096 * PAGE_COUNT);
        }
        if (sort == 2) {
            return random.nextBoolean() ? Rig.END + random.nextInt(16) * 4 : Rig.BASE + 4194304 - 4;
        }
        int unused = 64 - 9 * depths - 12;
        return a << unused >> unused;
    }

    private static void anyRegions() {
        for (int i = 0; i < 8; i++) {
            configs[i] = 0;
            numbers[i] = 0;
        }
        // The program itself always stands in region 0; all of memory, mostly, in the last one.
        configs[0] = 0x1F;
        numbers[0] = (Rig.BASE >> 2) + 0x1FFF;
        configs[7] = random.nextInt(8) == 0 ? 0x18 + new int[] {0, 1, 3, 4, 5}[random.nextInt(5)] : 0x1F;
        numbers[7] = (1L << 54) - 1;
        int some = random.nextInt(4);
        for (int i = 1; i <= some; i++) {
            long at = random.nextBoolean() ? TABLES + 8 * random.nextInt(3 * 512) : PAGES + random.nextInt(3 * 4096);
            configs[i] = random.nextInt(256) & 0x9F;
            configs[i] = (configs[i] & 3) == 2 ? configs[i] & ~2 : configs[i];
            numbers[i] = at >> 2;
            if ((configs[i] >> 3 & 3) == 3) {
                int k = random.nextInt(13);
                numbers[i] = numbers[i] >> k << k | (1L << k) - 1;
            }
        }
    }

    private static long packedConfigs() {
        long v = 0;
        for (int i = 7; i >= 0; i--) {
            v = v << 8 | configs[i];
        }
        return v;
    }

    /** Runs words behind the set-up of regions (registers 1 .. 9), the table (10) and the status (11). */
    private static void run(long status, long address, long with, int... words) {
        long[] registers = {numbers[0], numbers[1], numbers[2], numbers[3], numbers[4], numbers[5], numbers[6],
            numbers[7], packedConfigs(), table, status, address, with};
        int[] all = new int[11 + words.length];
        for (int i = 0; i < 8; i++) {
            all[i] = Rig.csrrw(0, 944 + i, 1 + i);
        }
        all[8] = Rig.csrrw(0, 928, 9);
        all[9] = Rig.csrrw(0, 384, 10);
        all[10] = Rig.csrrw(0, 768, 11);
        System.arraycopy(words, 0, all, 11, words.length);
        rig.prepare(registers, all);
        Rig.due("still no trap", rig.csr(834), 0);
        marked.clear();
        rig.machine.run(10);
        Rig.due("configs", rig.csr(928), packedConfigs());
    }

    private static long[] tables() {
        long[] words = new long[512 * TABLE_COUNT];
        for (int i = 0; i < words.length; i++) {
            words[i] = rig.machine.word(TABLES + 8L * i);
        }
        return words;
    }

    private static void checkTables(String told, long[] before) {
        for (int i = 0; i < before.length; i++) {
            long at = TABLES + 8L * i;
            long want = marked.containsKey(at) ? marked.get(at) : before[i];
            long got = rig.machine.word(at);
            if (got != want) {
                Rig.due(told + " table at " + Long.toHexString(at), got, want);
            }
        }
    }

    private static void data() {
        int mode = new int[] {0, 1, 1, 0, 3}[random.nextInt(5)];
        sum = random.nextBoolean();
        mxr = random.nextBoolean();
        long status = (long) mode << 11 | 1 << 17 | (sum ? 1 << 18 : 0) | (mxr ? 1 << 19 : 0);
        int log = random.nextInt(4), n = 1 << log;
        long a = anyAddress();
        if (random.nextBoolean()) {
            a &= -n;
        }
        boolean loads = random.nextBoolean();
        long with = 0x1122334455667788L;
        run(status, a, with, loads ? Rig.i(3, 14, log == 3 ? 3 : 4 + log, 12, 0) : Rig.s(35, log, 12, 13, 0));
        rig.machine.run(1);
        locate(a, n, loads ? LOAD : STORE, mode);
        long want = cause == 0 && loads ? dueLoad(n) : 0;
        long[] before = tables();
        rig.machine.run(1);
        String told = (loads ? "load " : "store ") + n + " at " + Long.toHexString(a) + " in mode " + mode + " by "
                + Long.toHexString(table);
        Rig.due(told + " cause", rig.csr(834), cause);
        Rig.due(told + " value", rig.csr(835), value);
        Rig.due(told + " place", rig.csr(833), cause == 0 ? 0 : Rig.BASE + 128 + 44);
        if (loads) {
            Rig.due(told, rig.x(14), want);
        }
        boolean intoTables = false;
        for (int i = 0; i < n && cause == 0 && !loads; i++) {
            long at = whole ? places[0] + i : places[i];
            if (inMemory(at)) {
                Rig.due(told + " byte", rig.machine.sum(at, at + 1), with >>> 8 * i & 255);
                intoTables |= at >= TABLES && at < TABLES + 4096 * TABLE_COUNT;
            }
        }
        if (!intoTables) {
            checkTables(told, before);
        }
        Rig.due("breaches", rig.machine.breaches(), 0);
    }

    private static void fetch() {
        int mode = random.nextInt(2);
        sum = random.nextBoolean();
        mxr = random.nextBoolean();
        long status = (long) mode << 11 | (sum ? 1 << 18 : 0) | (mxr ? 1 << 19 : 0);
        long a = anyAddress() & -2L;
        run(status, a, 0, Rig.csrrw(0, 833, 12), Rig.MRET);
        rig.machine.run(3);
        Rig.due("mode", rig.machine.mode(0), mode);
        Rig.due("counter", rig.machine.counter(0), a);
        int due = fetchHalf(a, mode);
        value = a;
        if (due == 0) {
            int half = (int) (rig.machine.sum(physical, physical + 1) + 256 * rig.machine.sum(physical + 1, physical + 2));
            due = 2;
            value = half;
            if ((half & 3) == 3) {
                due = fetchHalf(a + 2, mode);
                value = due == 0 ? 0 : a + 2;
                due = due == 0 ? 8 + mode : due;
            }
            if (half != 0 && half != 115) {
                return;
            }
        }
        long[] before = tables();
        rig.machine.run(1);
        String told = "fetch at " + Long.toHexString(a) + " in mode " + mode + " by " + Long.toHexString(table);
        Rig.due(told + " cause", rig.csr(834), due);
        Rig.due(told + " value", rig.csr(835), value);
        Rig.due(told + " place", rig.csr(833), a);
        checkTables(told, before);
    }

    private static int fetchHalf(long a, int mode) {
        int fault = find(a, 2, FETCH, mode);
        return fault == 0 && !inMemory(physical) ? 1 : fault;
    }

    private static final int[] counts = new int[16];

    private static void scenes() {
        for (int scene = 0; scene < 300; scene++) {
            boolean plain = scene % 2 == 0;
            layTables(plain);
            for (int i = 0; i < 60; i++) {
                long sort = new long[] {8, 9, 8, 9, 0}[random.nextInt(5)];
                long root = TABLES + (sort == 9 ? 0 : 4096) >> 12;
                table = sort << 60 | 0x5A5AL << 44 | root;
                if (random.nextInt(20) == 0) {
                    table = sort << 60 | random.nextInt(1 << 20);
                }
                anyRegions();
                if (!plain || random.nextInt(3) == 0) {
                    data();
                } else {
                    fetch();
                }
                counts[(int) (rig.csr(834) & 15)]++;
            }
        }
        for (int c : new int[] {0, 1, 5, 7, 12, 13, 15, 2}) {
            Rig.due("some scenes end with " + c + " (" + counts[c] + ")", counts[c] > 10);
        }
    }

    /** A table in the last page of memory, and one that is not there. */
    private static void tablesAtTheEdge() {
        long last = Rig.BASE + 4194304 - 4096;
        rig.longs(last, (Rig.BASE >> 12) << 10 | 0xDF);
        rig.longs(last + 4088, (Rig.BASE >> 12) << 10 | 0xDF);
        long[] addresses = {Rig.DATA & (1L << 30) - 1, -(1L << 30) + (Rig.DATA & (1L << 30) - 1)};
        for (long a : addresses) {
            for (int beyond = 0; beyond < 2; beyond++) {
                for (int access = 0; access < 2; access++) {
                    rig.exec(new long[] {0x1F, -1L, 8L << 60 | (last >> 12) + beyond, 1L << 17, a, 77},
                            Rig.csrrw(0, 928, 1), Rig.csrrw(0, 944, 2), Rig.csrrw(0, 384, 3), Rig.csrrw(0, 768, 4),
                            access == 0 ? Rig.ld(7, 5, 0) : Rig.store(8, 6, 5, 0x40));
                    Rig.due("cause", rig.csr(834), beyond == 0 ? 0 : access == 0 ? 5 : 7);
                    Rig.due("value", rig.csr(835), beyond == 0 ? 0 : access == 0 ? a : a + 0x40);
                    if (access == 0) {
                        Rig.due("loaded", rig.x(7), beyond == 0 ? 0x1F : 0);
                    }
                }
            }
        }
    }

    // Setting regions.

    private static void settings() {
        rig.exec(new long[] {0x0202021FL | 2L << 32 | 3L << 40 | 0x60L << 48 | 0xFFL << 56, -1L, 5},
                Rig.csrrw(0, 951, 2), Rig.csrrw(0, 944, 2), Rig.csrrw(0, 928, 1), Rig.csrrw(0, 951, 3),
                Rig.csrrw(0, 950, 3), Rig.csrrw(0, 944, 3), Rig.csrrw(0, 928, 0));
        Rig.due("a locked config stays", rig.csr(928), 0x9FL << 56);
        Rig.due("a locked number stays", rig.csr(951), (1L << 54) - 1);
        Rig.due("the number before it does not stay when A is 3", rig.csr(950), 5);
        Rig.due("number 0", rig.csr(944), 5);
        rig.exec(new long[] {0x0202021FL | 2L << 32 | 3L << 40 | 0x60L << 48 | 0x7FL << 56}, Rig.csrrw(0, 928, 1));
        Rig.due("configs without what is not kept", rig.csr(928), 0x1FL | 3L << 40 | 0x1FL << 56);
        rig.exec(new long[] {0x88L << 8, 7, 0x0F0F0F0F0F0F0F0FL}, Rig.csrrw(0, 944, 2), Rig.csrrw(0, 945, 2),
                Rig.csrrw(0, 928, 1), Rig.csrrw(0, 944, 3), Rig.csrrw(0, 945, 3), Rig.csrrw(0, 946, 3),
                Rig.csrrs(9, 928, 3));
        Rig.due("the number before a locked one with A 1", rig.csr(944), 7);
        Rig.due("the locked number", rig.csr(945), 7);
        Rig.due("the one behind", rig.csr(946), 0x0F0F0F0F0F0F0F0FL & (1L << 54) - 1);
        Rig.due("what was shown before", rig.x(9), 0x88L << 8);
        Rig.due("set but for the locked one", rig.csr(928), 0x0F0F0F0F0F0F880FL);
        rig.exec(new long[] {0x0808, 7, 9}, Rig.csrrw(0, 928, 1), Rig.csrrw(0, 944, 2), Rig.csrrw(0, 945, 3));
        Rig.due("the number before one with A 1 that is not locked", rig.csr(944), 7);
        Rig.due("its own", rig.csr(945), 9);
        rig.exec(new long[] {-1L}, Rig.csrrw(0, 930, 1), Rig.csrrw(0, 952, 1), Rig.csrrw(0, 959, 1));
        Rig.due("930", rig.csr(930), 0);
        Rig.due("952", rig.csr(952), 0);
        Rig.due("959", rig.csr(959), 0);
        Rig.due("no trap", rig.csr(834), 0);
        for (int k : new int[] {929, 931, 943, 960}) {
            rig.exec(new long[] {-1L}, Rig.csrrs(0, k, 0));
            Rig.due("no register " + k, rig.csr(834), 2);
        }
        rig.machine.start();
        Rig.due("regions behind start", rig.csr(928) | rig.csr(951), 0);
    }

    /** A locked region binds the machine mode too, and a fetch. */
    private static void locked() {
        rig.exec(new long[] {0x99, Rig.DATA + 0x400 >> 2 | 0x1F, Rig.DATA + 0x400, 9}, Rig.csrrw(0, 944, 2),
                Rig.csrrw(0, 928, 1), Rig.ld(5, 3, 0), Rig.store(8, 4, 3, 0));
        Rig.due("store into a locked region", rig.csr(834), 7);
        Rig.due("its value", rig.csr(835), Rig.DATA + 0x400);
        rig.exec(new long[] {0x99, Rig.DATA + 0x400 >> 2 | 0x1F, Rig.DATA + 0x400, 9}, Rig.csrrw(0, 944, 2),
                Rig.csrrw(0, 928, 1), Rig.jalr(0, 3, 0), Rig.NOP);
        Rig.due("fetch from a locked region", rig.csr(834), 1);
        Rig.due("its value", rig.csr(835), Rig.DATA + 0x400);
        Rig.due("its place", rig.csr(833), Rig.DATA + 0x400);
        rig.exec(new long[] {0x19, Rig.DATA + 0x400 >> 2 | 0x1F, Rig.DATA + 0x400, 9}, Rig.csrrw(0, 944, 2),
                Rig.csrrw(0, 928, 1), Rig.store(8, 4, 3, 0), Rig.store(8, 4, 3, 0xFC));
        Rig.due("one that is not locked lets the machine through, but not past its end", rig.csr(835),
                Rig.DATA + 0x4FC);
        Rig.due("stored", rig.machine.word(Rig.DATA + 0x400), 9);
    }

    private static void farAddresses() {
        for (long a : new long[] {-8, 1L << 56, 0, Rig.BASE - 8, Rig.BASE + 4194304, 1L << 32, Rig.SERIAL + 256,
            Rig.END - 8, Rig.END + 4096, Rig.TIMER + 65536, Rig.CONTROLLER + 4194304, Rig.BLOCK + 4096}) {
            rig.exec(new long[] {a, 9}, Rig.ld(3, 1, 0));
            Rig.due("load at " + Long.toHexString(a), rig.csr(834), 5);
            Rig.due("its value", rig.csr(835), a);
            rig.exec(new long[] {a, 9}, Rig.store(8, 2, 1, 0));
            Rig.due("store at " + Long.toHexString(a), rig.csr(834), 7);
            Rig.due("its value", rig.csr(835), a);
            rig.exec(new long[] {a, 9}, Rig.jalr(0, 1, 0), Rig.NOP);
            Rig.due("fetch at " + Long.toHexString(a), rig.csr(834), 1);
            Rig.due("its value", rig.csr(835), a);
        }
        rig.exec(new long[] {Rig.TIMER, 9}, Rig.jalr(0, 1, 0), Rig.NOP);
        Rig.due("fetch from a window", rig.csr(834), 1);
        rig.exec(new long[] {Rig.BASE + 4194304 - 4, 9}, Rig.ld(3, 1, 0));
        Rig.due("load past the end of memory", rig.csr(835), Rig.BASE + 4194304);
        rig.exec(new long[] {Rig.BASE - 4, 9}, Rig.ld(3, 1, 0));
        Rig.due("load before memory", rig.csr(835), Rig.BASE - 4);
        rig.exec(new long[] {Rig.TIMER + 49144 + 2, 9}, Rig.load(4, 3, 1, 0));
        Rig.due("load of a window that its size does not divide", rig.csr(834), 5);
        rig.exec(new long[] {Rig.TIMER + 4094, 9}, Rig.load(4, 3, 1, 0));
        Rig.due("load of a window over two pages", rig.csr(835), Rig.TIMER + 4094);
        rig.exec(new long[] {-4, 9}, Rig.ld(3, 1, 0));
        Rig.due("load round the end of all", rig.csr(835), -4);
        rig.bytes(Rig.BASE + 4194304 - 2, (byte) 3, (byte) 0);
        rig.exec(new long[] {Rig.BASE + 4194304 - 2}, Rig.jalr(0, 1, 0), Rig.NOP);
        Rig.due("fetch of a second half past memory", rig.csr(835), Rig.BASE + 4194304);
    }

    public static void main(String[] args) {
        scenes();
        tablesAtTheEdge();
        settings();
        locked();
        farAddresses();
        Rig.finish("FindingTest");
    }
}
