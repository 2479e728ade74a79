import java.util.Random;

/**
 * The whole machine against PlainMachine: programs of random words run on one to four processors, in all modes, with and
 * without tables and regions, with all devices; all that can be seen is compared again and again.
 */
public final class WholeTest {
    private static final int RUNS = 400, CHUNKS = 12;
    private static final long BASE = PlainBoard.BASE, MACHINE_TRAPS = BASE + 0x800, SUPERVISOR_TRAPS = BASE + 0xA00;
    private static final long CODE = BASE + 0x1000, BLOCKS = BASE + 0x8000, VALUES = BASE + 0x10000;
    private static final long TABLES = BASE + 0x20000, DATA = BASE + 0x30000;
    private static final int WORDS = 160;
    /** Registers with addresses; those from FIRST_KEPT on are not changed by random words. */
    private static final int FIRST_POINTER = 8, FIRST_KEPT = 16, LAST_POINTER = 25;
    /** The devices, the offers of the queue, and data. */
    private static final int BLOCK = 20, OFFERS = 21, SERIAL = 22, CONTEXT = 23, TIMER = 24, NEAR = 25;
    private static final int[] CONTROLS = {1, 2, 3, 256, 260, 261, 262, 320, 321, 322, 323, 324, 384, 768, 769, 770, 771, 772, 773,
        774, 832, 833, 834, 835, 836, 928, 930, 944, 945, 946, 947, 948, 949, 950, 951, 952, 2816, 2818, 3072, 3073, 3074, 3857,
        3860};
    private static final int[] SET_UP = {944, 945, 946, 947, 951, 928, 770, 771, 772, 773, 261, 774, 262, 384, 836, 321, 833, 3,
        768};

    private static Random random;
    private static Rig rig;
    private static PlainMachine plain;

    private static int any(int n) {
        return random.nextInt(n);
    }

    private static int one(int... some) {
        return some[any(some.length)];
    }

    private static void both(long address, byte[] bytes) {
        rig.bytes(address, bytes);
        plain.load(address, bytes);
    }

    // Random words.

    /** A register that may be written. */
    private static int target() {
        return any(12) == 0 ? FIRST_POINTER + any(FIRST_KEPT - FIRST_POINTER) : one(0, 1, 3, 4, 5, 6, 7, 26, 27, 28, 29, 30, 31);
    }

    private static int pointer() {
        return any(16) == 0 ? any(32) : any(4) == 0 ? NEAR : FIRST_POINTER + any(LAST_POINTER - FIRST_POINTER + 1);
    }

    private static int offset() {
        return any(3) > 0 ? 8 * (any(16) - 8) : any(3) == 0 ? any(4096) - 2048 : any(32) - 16;
    }

    private static int floatWord() {
        int t = any(12) == 0 ? any(4) : any(2), a = any(32), b = any(32), d = any(32), r = any(3) == 0 ? 7 : any(6);
        int k = one(0, 1, 2, 3, 4, 5, 8, 11, 20, 24, 26, 28, 30, any(32));
        boolean isFixed = k == 8 || k == 11 || k >= 24;
        int other = k == 8 ? 1 - (t & 1) : k == 24 || k == 26 ? any(4) : 0;
        switch (any(5)) {
            case 0: return Rig.i(7, d, 2 + any(2), pointer(), offset());
            case 1: return Rig.s(39, 2 + any(2), pointer(), b, offset());
            case 2: return Rig.r(67 + 4 * any(4), d, r, a, b, any(32) << 2 | t);
            default:
                boolean isInteger = k == 20 || k == 24 || k == 28;
                return Rig.r(83, isInteger ? target() : d, k == 4 || k == 5 || k >= 28 || k == 20 ? any(3) : r, a,
                        isFixed ? other : b, k << 2 | t);
        }
    }

    private static int integerWord() {
        int d = target(), a = any(32), b = any(32);
        switch (any(6)) {
            case 0: return Rig.r(one(51, 59), d, any(8), a, b, one(0, 0, 1, 1, 32));
            case 1: return Rig.i(one(19, 27), d, one(0, 2, 3, 4, 6, 7), a, any(4096) - 2048);
            case 2: return Rig.i(one(19, 27), d, one(1, 5), a, any(32) | one(0, 0, 1024, 32));
            case 3: return one(Rig.lui(d, any(1 << 20)), Rig.auipc(d, any(1 << 20)));
            case 4: return Rig.branch(any(8), a, b, 4 * (any(14) - 4));
            default: return any(3) == 0 ? Rig.jal(one(0, 1), 4 * (any(12) - 3)) : Rig.i(15, 0, any(2), 0, 0);
        }
    }

    private static int systemWord() {
        int k = CONTROLS[any(CONTROLS.length)];
        boolean isHeavy = k == 768 || k == 384 || k == 773 || k == 261 || k == 928 || k >= 944 && k < 952;
        int a = isHeavy && any(4) > 0 ? 0 : any(32), f = isHeavy ? 2 : one(1, 2, 3, 5, 6, 7);
        switch (any(6)) {
            case 0: return one(Rig.ECALL, Rig.EBREAK, Rig.WFI, Rig.SFENCE, Rig.WFI);
            case 1: return any(6) == 0 ? one(Rig.SRET, Rig.MRET) : Rig.i(115, target(), f, a, k);
            default: return Rig.i(115, target(), f, a, k);
        }
    }

    /** Some words that do something together. */
    private static int[] anyWords() {
        int a = pointer(), n = one(4, 8), r = target();
        switch (any(24)) {
            case 0: return new int[] {Rig.amo(2, n, r, a, 0), any(3) == 0 ? anyWord() : Rig.NOP, Rig.amo(3, n, 4, a, any(32))};
            case 1: return new int[] {Rig.load(2, 5, OFFERS, 2), Rig.addi(5, 5, one(1, 1, 1, 2, 30)), Rig.store(2, 5, OFFERS, 2),
                Rig.store(4, 0, BLOCK, 80)};
            case 2: return new int[] {Rig.load(4, 5, BLOCK, one(96, 112, 68)), Rig.store(4, 5, BLOCK, 100)};
            case 3: return new int[] {Rig.store(1, any(32), SERIAL, any(5)), Rig.i(3, r, 4, SERIAL, any(8))};
            case 4: return new int[] {Rig.load(4, 5, CONTEXT, 4), any(2) == 0 ? Rig.NOP : anyWord(), Rig.store(4, 5, CONTEXT, 4)};
            case 5: return new int[] {Rig.addi(5, 0, any(4)), Rig.store(4, 5, TIMER, 4 * any(5)), any(3) == 0 ? Rig.WFI : Rig.NOP};
            case 6: return new int[] {Rig.load(4, 5, CONTEXT, any(2) * 4), Rig.i(3, r, 4, SERIAL, 0), Rig.i(3, r, 4, SERIAL, 2)};
            default: return new int[] {anyWord()};
        }
    }

    private static int anyWord() {
        int n = 1 << any(4), log = Rig.log(n);
        switch (any(16)) {
            case 0: case 1: case 2: return Rig.i(3, target(), log == 3 ? 3 : log + 4 * any(2), pointer(), offset());
            case 3: case 4: case 5: return Rig.s(35, log, pointer(), any(32), offset());
            case 6:
                int sort = one(0, 1, 2, 3, 4, 8, 12, 16, 20, 24, 28);
                return Rig.amo(sort, one(4, 8), target(), pointer(), any(3) == 0 ? 0 : any(32));
            case 7: case 8: return integerWord();
            case 9: case 10: return floatWord();
            case 11: case 12: return systemWord();
            case 13: case 14: return halves();
            default: return any(4) == 0 ? random.nextInt() : integerWord();
        }
    }

    /** Two 16-bit forms that do not lead far away. */
    private static int halves() {
        int w = 0;
        for (int i = 0; i < 2; i++) {
            int h = any(65536);
            int sort = (h & 3) << 3 | h >>> 13;
            boolean isJump = sort == 0b01101 || sort == 0b10100 && (h & 0x7C) == 0;
            int d = h >>> 7 & 31;
            boolean isKept = (h & 3) != 0 && d >= FIRST_KEPT && d <= LAST_POINTER && !(sort >= 0b10101) && sort < 0b01100;
            isKept |= (h & 3) == 2 && d >= FIRST_KEPT && d <= LAST_POINTER;
            if ((h & 3) == 3 || isJump || isKept) {
                h = 1;
            }
            w |= h << 16 * i;
        }
        return w;
    }

    // What stands in memory at first.

    private static long anyWindow() {
        long[] some = {PlainBoard.END, PlainBoard.TIMER, PlainBoard.SERIAL, PlainBoard.BLOCK};
        return some[any(some.length)];
    }

    private static long anyEntry(int depth) {
        long leaf = one(0xCF, 0xDF, 0xC7, 0xD7, 0x0F, 0x4F, 0x1F, 0xC3, 0xC9, 0xDB, any(256));
        if (any(25) == 0) {
            leaf |= 1L << 54 + any(10);
        }
        switch (any(6)) {
            case 0: return TABLES + 4096 * any(5) >> 12 << 10 | 1 | (any(10) == 0 ? 0x40 : 0);
            case 1: return (depth == 0 ? anyWindow() >> 12 : 0) << 10 | leaf;
            case 2: return (any(1 << 20) & -1L << 9 * depth) << 10 | leaf;
            default: return (depth == 0 ? (DATA >> 12) + any(3) : BASE >> 12) << 10 | leaf;
        }
    }

    /**
     * Pages 0 and 1 are the first ones of sorts 9 and 8 for the supervisor, 5 and 6 for the user: MEMORY at its own
     * addresses, and all below, where the windows are, as it comes.
     */
    private static void layTables() {
        for (int user = 0; user < 2; user++) {
            long at = TABLES + 4096 * 5 * user;
            long own = (BASE >> 12) << 10 | one(0xCF, 0xCF, 0x0F) | 16 * user;
            both(at, Rig.longBytes(at + 4096 >> 12 << 10 | 1, anyEntry(3), anyEntry(3)));
            long below = any(2) == 0 ? 0xCFL | 16 * user : TABLES + 8192 >> 12 << 10 | 1;
            both(at + 4096, Rig.longBytes(below, anyEntry(2), own, anyEntry(2)));
        }
        for (int page = 2; page < 5; page++) {
            long[] entries = new long[12];
            for (int i = 0; i < entries.length; i++) {
                entries[i] = anyEntry(page == 2 ? 1 : 0);
            }
            if (page == 2 && any(4) > 0) {
                entries[0] = TABLES + 3 * 4096 >> 12 << 10 | 1;
            }
            both(TABLES + 4096 * page, Rig.longBytes(entries));
        }
    }

    private static void layQueue() {
        long[] blocks = new long[32];
        for (int k = 0; k < 16; k++) {
            boolean isFirst = k % 4 == 0, isLast = k % 4 == 3 || any(6) == 0;
            int marks = (isLast ? 0 : 1) | (isFirst ? 0 : isLast || any(2) == 0 ? 2 : 0) | (any(40) == 0 ? 4 : 0);
            long length = isFirst ? 16 : isLast ? 1 + 512 * any(2) : 256 * any(3);
            blocks[2 * k] = isFirst ? BLOCKS + 0x400 + 16 * any(8) : DATA + 512 * any(16);
            blocks[2 * k + 1] = length | (long) marks << 32 | (long) (any(30) == 0 ? any(20) : k + 1) << 48;
        }
        both(BLOCKS, Rig.longBytes(blocks));
        long[] heads = new long[16];
        for (int i = 0; i < 8; i++) {
            heads[2 * i] = one(0, 0, 1, 1, 4, 8, any(20));
            heads[2 * i + 1] = any(8) == 0 ? 2040 + any(10) : any(100);
        }
        both(BLOCKS + 0x400, Rig.longBytes(heads));
        int count = any(6);
        long offers = any(2) | count << 16;
        both(BLOCKS + 0x200, Rig.longBytes(offers | (long) (4 * any(4)) << 32 | (long) (4 * any(4)) << 48,
                4 * any(4) | 4 * any(4) << 16 | (long) (4 * any(4)) << 32));
    }

    private static long anyPointer() {
        switch (any(9)) {
            case 0: return PlainBoard.TIMER + one(0, 4, 16384, 16392, 49144);
            case 1: return PlainBoard.CONTROLLER + one(4, 40, 4096, 8192, 8320, 2097152, 2097156, 2101252);
            case 2: return PlainBoard.SERIAL + any(8);
            case 3: return PlainBoard.BLOCK + one(0, 16, 48, 64, 80, 96, 100, 112);
            case 4: return any(3) == 0 ? TABLES + 8 * any(12) + 4096 * any(5) : BLOCKS + 8 * any(200);
            case 5: return one(0x0, 0x1000, 0x3000, 0x200000, 0x4FFC) + 8 * any(8);
            case 6: return any(6) == 0 ? random.nextLong() : CODE + 4 * any(WORDS);
            default: return DATA + 8 * any(1024);
        }
    }

    private static long anyNumber() {
        switch (any(4)) {
            case 0: return one(0, 1, -1, 2, 10, 16, 31, 64, 128, 2048, 0x3333, 0x80000000);
            case 1: return random.nextLong();
            case 2: return random.nextInt();
            default: return any(256);
        }
    }

    private static long setUpValue(int k, int sort, int mode) {
        // What is handed to the supervisor runs by the user's tables into nothing.
        boolean mayHand = mode == 1 || sort == 0;
        switch (k) {
            case 951: return -1;
            case 928: return (any(8) == 0 ? 0x1BL : 0x1FL) << 56 | (any(3) == 0 ? random.nextInt() & 0x1F1F1F1FL : 0);
            case 944: case 945: case 946: case 947:
                return (any(2) == 0 ? DATA : TABLES) + 8 * any(512) >> 2 | (1L << any(9)) - 1;
            case 770: return any(2) == 0 || !mayHand ? 0 : random.nextInt();
            case 771: return any(2) == 0 || !mayHand ? 0 : any(0x1000);
            case 772: return any(3) == 0 ? 0 : any(0x1000);
            case 773: return MACHINE_TRAPS;
            case 261: return SUPERVISOR_TRAPS;
            case 774: case 262: return any(8);
            case 384: return (long) sort << 60 | TABLES + 4096 * ((sort == 8 ? 1 : 0) + (mode == 0 ? 5 : 0)) >> 12;
            case 836: return any(3) == 0 ? any(0x1000) : 0;
            case 3: return any(5) << 5;
            case 768: return random.nextInt() & 0xE61AAL | (long) mode << 11 | one(0x2000, 0x4000, 0x6000, 0x6000, 0);
            default: return CODE + 8 * any(20);
        }
    }

    private static void layPrelude() {
        int[] words = new int[4 + 2 * SET_UP.length + 2 + 64 + 1];
        int n = 0;
        words[n++] = Rig.auipc(31, 0x10);
        words[n++] = Rig.i(19, 30, 1, 10, 10);
        words[n++] = Rig.r(51, 31, 0, 31, 30, 0);
        words[n++] = Rig.lui(30, 6);
        words[n++] = Rig.csrrs(0, 768, 30);
        for (int r = 0; r < 32; r++) {
            words[n++] = Rig.i(7, r, 3, 31, 256 + 8 * r);
        }
        for (int i = 0; i < SET_UP.length; i++) {
            words[n++] = Rig.ld(30, 31, 512 + 8 * i);
            words[n++] = Rig.csrrw(0, SET_UP[i], 30);
        }
        for (int r = 1; r < 32; r++) {
            words[n++] = Rig.ld(r, 31, 8 * r);
        }
        words[n] = Rig.MRET;
        both(BASE, Rig.wordBytes(words));
    }

    /**
     * Both kinds of traps go on behind the word. That of the machine also completes what it claims, turns SOFT off and lets
     * COMPARE grow; both clear what is pending. They trust no register, but to be run in their mode.
     */
    private static void layTraps() {
        int behind = one(4, 4, 2);
        both(MACHINE_TRAPS, Rig.wordBytes(Rig.csrrs(28, 833, 0), Rig.addi(28, 28, behind), Rig.csrrw(0, 833, 28),
                Rig.csrrs(28, 3860, 0), Rig.i(19, 29, 1, 28, 13), Rig.lui(30, 0xC200), Rig.r(51, 29, 0, 29, 30, 0),
                Rig.load(4, 30, 29, 4), Rig.store(4, 30, 29, 4), Rig.lui(30, 0x2000), Rig.i(19, 29, 1, 28, 2),
                Rig.r(51, 29, 0, 29, 30, 0), Rig.store(4, 0, 29, 0), Rig.lui(30, 0x2004), Rig.i(19, 29, 1, 28, 3),
                Rig.r(51, 29, 0, 29, 30, 0), Rig.lui(30, 0x200C), Rig.ld(30, 30, -8), Rig.addi(30, 30, 3),
                Rig.store(8, 30, 29, 0), Rig.addi(30, 0, -1), Rig.csrrc(0, 836, 30), Rig.MRET));
        both(SUPERVISOR_TRAPS, Rig.wordBytes(Rig.csrrs(28, 321, 0), Rig.addi(28, 28, behind), Rig.csrrw(0, 321, 28),
                Rig.addi(30, 0, -1), Rig.csrrc(0, 324, 30), Rig.csrrc(0, 260, 30), Rig.SRET));
    }

    private static void layCode() {
        int[] words = new int[WORDS + 8];
        int n = 0;
        while (n < WORDS) {
            for (int w : anyWords()) {
                words[n++] = w;
            }
        }
        words[n] = Rig.jal(0, -4 * n);
        both(CODE, Rig.wordBytes(words));
    }

    private static void layValues(int h) {
        long[] values = new long[64 + SET_UP.length];
        for (int r = 1; r < 32; r++) {
            values[r] = r >= FIRST_POINTER && r <= LAST_POINTER ? anyPointer() : anyNumber();
        }
        values[2] = DATA + 8 * any(256);
        values[BLOCK] = PlainBoard.BLOCK;
        values[OFFERS] = BLOCKS + 0x200;
        values[SERIAL] = PlainBoard.SERIAL;
        values[CONTEXT] = PlainBoard.CONTROLLER + 2097152 + 4096 * (2 * h + any(2));
        values[TIMER] = PlainBoard.TIMER;
        values[NEAR] = any(4) == 0 ? 0x3FF8 : DATA + 8 * any(256);
        for (int r = 0; r < 32; r++) {
            long v = random.nextLong();
            values[32 + r] = any(3) == 0 ? v : any(2) == 0 ? v | -1L << 32 : Double.doubleToRawLongBits(any(100) / 8.0);
        }
        int mode = one(0, 1, 1, 3), sort = one(0, 0, 8, 9);
        for (int i = 0; i < SET_UP.length; i++) {
            values[64 + i] = setUpValue(SET_UP[i], sort, mode);
        }
        both(VALUES + 1024 * h, Rig.longBytes(values));
    }

    /** Devices as a program would set them: a queue that is ready, sources that are enabled. */
    private static void setDevices() {
        long disk = PlainBoard.BLOCK, controller = PlainBoard.CONTROLLER;
        long[][] words = {{disk + 128, BLOCKS}, {disk + 144, BLOCKS + 0x200}, {disk + 160, BLOCKS + 0x300}, {disk + 68, 1},
            {disk + 112, 15}, {controller + 4, any(4)}, {controller + 40, any(4)}, {controller + 8192, -1},
            {controller + 8320, -1}};
        for (long[] w : words) {
            if (any(8) > 0) {
                poke(w[0], 4, w[1]);
            }
        }
        poke(PlainBoard.SERIAL + 1, 1, any(16));
        poke(PlainBoard.SERIAL + 2, 1, any(2));
    }

    private static void poke(long address, int n, long v) {
        byte[] words = Rig.wordBytes(Rig.auipc(1, 1), Rig.ld(2, 1, 0), Rig.ld(3, 1, 8), Rig.store(n, 3, 2, 0));
        both(BASE, words);
        both(BASE + 4096, Rig.longBytes(address, v));
        start();
        rig.machine.run(4);
        plain.run(4);
    }

    private static void start() {
        rig.machine.start();
        plain.start();
    }

    // What can be seen.

    private static long sum(byte[] bytes, long from, int n) {
        long v = 0;
        for (int i = 0; i < n; i++) {
            v = v * 31 + (bytes[(int) from + i] & 255);
        }
        return v;
    }

    private static void compare(String told) {
        BoardMachine m = rig.machine;
        for (int h = 0; h < plain.processors; h++) {
            PlainMachine.Processor p = plain.all[h];
            String who = told + ", processor " + h;
            Rig.due(who + ": counter", m.counter(h), p.counter);
            Rig.due(who + ": mode", m.mode(h), p.mode + (p.isWaiting ? 4 : 0));
            for (int r = 0; r < 32; r++) {
                Rig.due(who + ": register " + r, m.register(h, r), p.x[r]);
                Rig.due(who + ": float " + r, m.floating(h, r), p.f[r]);
            }
            for (int k : CONTROLS) {
                Rig.due(who + ": control " + k, m.control(h, k), p.show(k));
            }
        }
        for (long at = 0; at < 0x40000; at += 0x10000) {
            Rig.due(told + ": memory at " + at, m.sum(BASE + at, BASE + at + 0x10000), sum(plain.memory, at, 0x10000));
        }
        Rig.due(told + ": time", m.time(), plain.time);
        Rig.due(told + ": code", m.code(), plain.ended ? plain.code : -1);
        Rig.due(told + ": sent", m.sent(), plain.out.length());
        for (int i = Math.max(0, plain.out.length() - 4); i < plain.out.length(); i++) {
            Rig.due(told + ": out " + i, m.out(i), plain.out.charAt(i));
        }
        Rig.due(told + ": waiting", m.waiting(), plain.input.size());
        Rig.due(told + ": changed", m.changed(), plain.changed);
        Rig.due(told + ": breaches", m.breaches(), 0);
    }

    private static void compareDisk(String told) {
        for (int i = 0; i < plain.sectors.length; i += 37) {
            if (rig.machine.disk(i) != (plain.sectors[i] & 255)) {
                Rig.due(told + ": byte " + i + " of the disk", rig.machine.disk(i), plain.sectors[i] & 255);
            }
        }
    }

    private static void feed() {
        byte[] bytes = new byte[any(40)];
        random.nextBytes(bytes);
        rig.feed(bytes);
        rig.machine.load(BoardMachine.INPUT, 0);
        for (byte b : bytes) {
            plain.input.add(b & 255);
        }
    }

    private static void oneRun(int seed) {
        // Seeds that follow each other would begin alike.
        random = new Random(seed * 0x9E3779B97F4A7C15L);
        int processors = 1 + any(4);
        rig = new Rig(processors);
        plain = new PlainMachine(processors);
        setDevices();
        byte[] some = new byte[4000];
        random.nextBytes(some);
        both(DATA, some);
        rig.feed(some);
        int sector = any(90);
        rig.machine.load(BoardMachine.SECTORS, sector);
        System.arraycopy(some, 0, plain.sectors, 512 * sector, some.length);
        layTables();
        layQueue();
        layPrelude();
        layTraps();
        layCode();
        for (int h = 0; h < processors; h++) {
            layValues(h);
        }
        start();
        int prelude = 5 + 32 + 2 * SET_UP.length + 31 + 1;
        rig.machine.run(prelude);
        plain.run(prelude);
        for (int chunk = 0; chunk < CHUNKS; chunk++) {
            String told = "run " + seed + ", chunk " + chunk;
            compare(told);
            if (any(4) == 0) {
                feed();
            }
            int rounds = 1 + any(140);
            Rig.due(told + ": rounds", rig.machine.run(rounds), plain.run(rounds));
        }
        compare("run " + seed + " at last");
        compareDisk("run " + seed);
    }

    public static void main(String[] args) {
        int first = args.length > 0 ? Integer.parseInt(args[0]) : 1;
        int runs = args.length > 1 ? Integer.parseInt(args[1]) : RUNS;
        for (int seed = first; seed < first + runs; seed++) {
            oneRun(seed);
        }
        Rig.finish("WholeTest");
    }
}
