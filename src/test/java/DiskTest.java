import java.util.Random;

/** Part 8 against a slow model that works byte by byte on a copy of memory. */
public final class DiskTest {
    private static final Rig rig = new Rig(1);
    private static final Random random = new Random(23);
    private static final long AREA = Rig.BASE + 0x20000;
    private static final int SIZE = 0x20000;
    private static final long BLOCKS = AREA + 0x100, OFFERS = AREA + 0x400, ANSWERS = AREA + 0x600, HEADS = AREA + 0x800;
    private static final long BUFFERS = AREA + 0x1000;

    // The model.
    private static final byte[] memory = new byte[SIZE];
    private static final byte[] disk = new byte[512 * 2048];
    private static int word20, word48, size = 16, causes, state, taken, answered, changed;
    private static boolean ready;
    private static long blocksAt, offersAt, answersAt;

    private static final class Broken extends RuntimeException {
    }

    private static boolean there(long at) {
        return at >= Rig.BASE && at < Rig.BASE + 4194304;
    }

    private static int get(long at) {
        if (!there(at)) {
            throw new Broken();
        }
        if (at >= AREA && at < AREA + SIZE) {
            return memory[(int) (at - AREA)] & 255;
        }
        return (int) rig.machine.sum(at, at + 1);
    }

    private static long number(long at, int n) {
        long v = 0;
        for (int i = n - 1; i >= 0; i--) {
            v = v << 8 | get(at + i);
        }
        return v;
    }

    private static void put(long at, long v) {
        if (at < AREA || at >= AREA + SIZE) {
            throw new IllegalStateException("the model keeps only the area");
        }
        memory[(int) (at - AREA)] = (byte) v;
    }

    private static void mustBeThere(long at, long n) {
        if (n > 0 && (!there(at) || n > 4194304 || !there(at + n - 1))) {
            throw new Broken();
        }
    }

    private static void work() {
        if ((state & 4) == 0 || (state & 64) != 0 || !ready) {
            return;
        }
        int done = 0;
        boolean quiet = false;
        try {
            while (true) {
                int marks = (int) number(offersAt, 2), count = (int) number(offersAt + 2, 2);
                quiet = (marks & 1) == 1;
                if (count == taken || done == 64) {
                    break;
                }
                if ((count - taken & 65535) > size) {
                    throw new Broken();
                }
                request();
                done++;
            }
        } catch (Broken b) {
            state |= 64;
            causes |= 2;
        }
        if (done > 0 && !quiet) {
            causes |= 1;
        }
    }

    private static void request() {
        int first = (int) number(offersAt + 4 + 2 * (taken % size), 2);
        long[] at = new long[16], length = new long[16];
        boolean[] open = new boolean[16];
        int n = 0, k = first;
        while (true) {
            if (n == size || k >= size) {
                throw new Broken();
            }
            long b = blocksAt + 16 * k;
            at[n] = number(b, 8);
            length[n] = number(b + 8, 4);
            int marks = (int) number(b + 12, 2);
            k = (int) number(b + 14, 2);
            open[n] = (marks & 2) != 0;
            if ((marks & 4) != 0 || n > 0 && open[n - 1] && !open[n]) {
                throw new Broken();
            }
            mustBeThere(at[n], length[n]);
            n++;
            if ((marks & 1) == 0) {
                break;
            }
        }
        if (open[0] || length[0] < 16 || !open[n - 1] || length[n - 1] == 0) {
            throw new Broken();
        }
        long answer = answersAt + 4 + 8 * (answered % size);
        mustBeThere(answer, 8);
        mustBeThere(answersAt + 2, 2);
        long kind = number(at[0], 4), sector = number(at[0] + 8, 8);
        long[] data = new long[70000];
        int closed = 0, opened = 0;
        long closedBytes = 0, openBytes = -1;
        for (int i = 1; i < n; i++) {
            closedBytes += open[i] ? 0 : length[i];
            openBytes += open[i] ? length[i] : 0;
        }
        int result = 0, written = 1;
        boolean reads = kind == 0;
        if (kind == 0 || kind == 1) {
            long bytes = reads ? openBytes : closedBytes;
            boolean whole = bytes % 512 == 0 && bytes <= 64 * 512;
            for (long i = 0; whole && i < bytes / 512; i++) {
                whole = sector + i >= 0 && sector + i < 2048 && sector >= 0 && sector < 2048;
            }
            result = whole ? 0 : 1;
            if (whole) {
                int m = 0;
                for (int i = 1; i < n; i++) {
                    for (long j = 0; open[i] == reads && j < length[i] && m < bytes; j++) {
                        int place = (int) sector * 512 + m;
                        if (reads) {
                            put(at[i] + j, disk[place]);
                        } else {
                            disk[place] = (byte) get(at[i] + j);
                        }
                        m++;
                    }
                }
                written += reads ? (int) bytes : 0;
                changed += reads ? 0 : (int) bytes / 512;
            }
        } else if (kind == 8) {
            int m = 0;
            for (int i = 1; i < n; i++) {
                for (long j = 0; open[i] && j < length[i] && m < 20 && m < openBytes; j++) {
                    put(at[i] + j, m < 5 ? "block".charAt(m) : 0);
                    m++;
                }
            }
            written += m;
        } else if (kind != 4) {
            result = 2;
        }
        put(at[n - 1] + length[n - 1] - 1, result);
        for (int i = 0; i < 4; i++) {
            put(answer + i, first >> 8 * i);
            put(answer + 4 + i, written >> 8 * i);
        }
        taken = taken + 1 & 65535;
        answered = answered + 1 & 65535;
        put(answersAt + 2, answered);
        put(answersAt + 3, answered >> 8);
    }

    private static long withPart(long v, int w, int offset) {
        return (offset & 4) == 0 ? v & ~0xFFFFFFFFL | w & 0xFFFFFFFFL : v & 0xFFFFFFFFL | (long) w << 32;
    }

    private static void write(int offset, int w) {
        rig.poke(Rig.BLOCK + offset, 4, w);
        boolean open = word48 == 0 && !ready;
        switch (offset) {
            case 20: word20 = w; break;
            case 48: word48 = w; break;
            case 56: if (open && (w == 1 || w == 2 || w == 4 || w == 8 || w == 16)) { size = w; } break;
            case 68: if (word48 == 0) { ready = (w & 1) == 1; } break;
            case 80: if (w == 0) { work(); } break;
            case 100: causes &= ~w; break;
            case 112:
                if (w == 0) {
                    word20 = word48 = causes = state = taken = answered = 0;
                    size = 16;
                    ready = false;
                    blocksAt = offersAt = answersAt = 0;
                } else {
                    state = w & 255 | state & 64;
                }
                break;
            case 128: case 132: blocksAt = open ? withPart(blocksAt, w, offset) : blocksAt; break;
            case 144: case 148: offersAt = open ? withPart(offersAt, w, offset) : offersAt; break;
            case 160: case 164: answersAt = open ? withPart(answersAt, w, offset) : answersAt; break;
            default: break;
        }
    }

    private static long dueRead(int offset) {
        switch (offset) {
            case 0: return 1953655158;
            case 4: case 8: return 2;
            case 16: return word20 == 0 ? 512 : word20 == 1 ? 1 : 0;
            case 52: return word48 == 0 ? 16 : 0;
            case 68: return ready && word48 == 0 ? 1 : 0;
            case 96: return causes;
            case 112: return state;
            case 256: return 2048;
            default: return 0;
        }
    }

    private static void checkRead(int offset) {
        Rig.due("register " + offset, rig.peek(Rig.BLOCK + offset, 4), dueRead(offset));
    }

    private static void checkAll(String told) {
        for (int offset : new int[] {68, 96, 112, 52}) {
            checkRead(offset);
        }
        Rig.due(told + " changed", rig.machine.changed(), changed);
        for (int at = 0; at < SIZE; at += 8) {
            long want = 0;
            for (int i = 7; i >= 0; i--) {
                want = want << 8 | memory[at + i] & 255;
            }
            long got = rig.machine.word(AREA + at);
            if (got != want) {
                Rig.due(told + " at " + Integer.toHexString(at), got, want);
            }
        }
        for (int i = 0; i < 4000; i++) {
            int place = random.nextInt(64 * 512);
            Rig.due(told + " disk", rig.machine.disk(place), disk[place] & 255);
        }
    }

    private static void sync() {
        for (int at = 0; at < SIZE; at += 40000) {
            byte[] part = java.util.Arrays.copyOfRange(memory, at, Math.min(SIZE, at + 40000));
            rig.bytes(AREA + at, part);
        }
    }

    private static void set(long at, int n, long v) {
        for (int i = 0; i < n; i++) {
            put(at + i, v >>> 8 * i);
        }
    }

    private static void block(long table, int k, long address, long length, int marks, int next) {
        set(table + 16 * k, 8, address);
        set(table + 16 * k + 8, 4, length);
        set(table + 16 * k + 12, 2, marks);
        set(table + 16 * k + 14, 2, next);
    }

    // Scenes.

    private static void setUp(int n, long blocks, long offers, long answers) {
        write(112, 0);
        write(56, n);
        write(128, (int) blocks);
        write(132, (int) (blocks >>> 32));
        write(144, (int) offers);
        write(148, (int) (offers >>> 32));
        write(160, (int) answers);
        write(164, (int) (answers >>> 32));
        write(68, 1);
        write(112, 15);
    }

    private static int buffer;

    private static long space(long length) {
        if (buffer + length > SIZE - 0x1000) {
            buffer = 0;
        }
        long at = BUFFERS + buffer;
        buffer += (int) Math.min(length, 40000) + random.nextInt(4);
        return at;
    }

    /** Lays a request from block k on, of at most so many blocks; answers how many it took. */
    private static int layRequest(long blocks, int k, int room, int n, int faults) {
        int kind = new int[] {0, 0, 1, 1, 1, 4, 8, 2, 0, 1}[random.nextInt(10)];
        long header = HEADS + 64 * k + random.nextInt(8);
        set(header, 4, random.nextInt(60) == 0 ? 1L << 31 | kind : kind);
        set(header + 4, 4, random.nextInt());
        long sector = random.nextInt(8) == 0 ? 2040 + random.nextInt(10) : random.nextInt(50);
        set(header + 8, 8, random.nextInt(20) == 0 ? random.nextLong() : sector);
        int parts = Math.max(0, Math.min(room - 2, random.nextInt(4)));
        long left = 512L * random.nextInt(random.nextInt(4) == 0 ? 70 : 5) + (random.nextInt(6) == 0 ? random.nextInt(3) - 1 : 0);
        left = Math.max(0, left);
        boolean opens = kind != 1 && random.nextInt(5) > 0;
        int used = 0;
        block(blocks, k % n, header, random.nextInt(10) == 0 ? 16 + random.nextInt(20) : 16, 1 | random.nextInt(2) * 8, (k + 1) % n);
        used++;
        for (int i = 0; i < parts; i++) {
            long length = i == parts - 1 ? left : left == 0 ? 0 : random.nextInt((int) left + 1);
            left -= length;
            block(blocks, (k + used) % n, space(length), length, opens ? 3 : 1, (k + used + 1) % n);
            used++;
        }
        long last = opens && parts == 0 ? 1 + 512 * random.nextInt(3) : 1;
        block(blocks, (k + used) % n, space(last), last, 2, random.nextInt(65536));
        used++;
        if (random.nextInt(100) < faults) {
            int which = (k + random.nextInt(used)) % n;
            long b = blocks + 16 * which;
            switch (random.nextInt(8)) {
                case 0: set(b + 12, 2, number(b + 12, 2) | 4); break;
                case 1: set(b + 12, 2, number(b + 12, 2) ^ 2); break;
                case 2: set(b + 14, 2, random.nextInt(40)); break;
                case 3: set(b + 12, 2, number(b + 12, 2) | 1); break;
                case 4: set(b, 8, Rig.BASE - 3 + random.nextInt(3)); break;
                case 5: set(b, 8, Rig.BASE + 4194304 - random.nextInt(20)); break;
                case 6: set(b + 8, 4, random.nextInt(20)); break;
                default: set(b + 8, 4, random.nextInt() | 1 << 31); break;
            }
            // Nothing of the program may be written over: what goes outside the area must break.
            long at = number(b, 8), length = number(b + 8, 4);
            if (length > 0 && there(at) && length <= 4194304 && there(at + length - 1)
                    && (at < AREA || at + length > AREA + SIZE)) {
                set(b, 8, 0);
                set(b + 8, 4, 1);
            }
        }
        return used;
    }

    private static void randomRequests() {
        random.nextBytes(memory);
        for (int scene = 0; scene < 250; scene++) {
            int n = 1 << random.nextInt(5);
            long blocks = BLOCKS + random.nextInt(8), offers = OFFERS + random.nextInt(8), answers = ANSWERS + random.nextInt(8);
            buffer = 0;
            for (int i = 0; i < 0x1000; i++) {
                memory[i] = (byte) random.nextInt(256);
            }
            int marks = random.nextInt(2);
            set(offers, 2, marks);
            set(offers + 2, 2, 0);
            setUp(n, blocks, offers, answers);
            int count = 0;
            for (int turn = 0; turn < 4; turn++) {
                int k = 0;
                while (k < n && count - taken < n) {
                    int used = layRequest(blocks, k, n - k, n, turn == 3 ? 50 : 8);
                    set(offers + 4 + 2 * (count % n), 2, random.nextInt(80) == 0 ? 40 : k);
                    count++;
                    k += used;
                }
                int told = random.nextInt(30) == 0 ? count + n + 1 : count;
                set(offers + 2, 2, told);
                if (random.nextBoolean()) {
                    marks = random.nextInt(2);
                }
                set(offers, 2, marks);
                sync();
                write(80, random.nextInt(20) == 0 ? 1 : 0);
                checkAll("scene " + scene + " turn " + turn);
                write(100, random.nextInt(4));
                count = taken;
            }
        }
    }

    private static void registers() {
        write(112, 0);
        for (int i = 0; i < 2000; i++) {
            int offset = random.nextBoolean() ? 4 * random.nextInt(1024) : new int[] {20, 48, 56, 68, 100, 112, 128, 16, 52,
                96, 256, 260, 504, 508, 512, 1020}[random.nextInt(16)];
            if (random.nextBoolean()) {
                checkRead(offset);
            } else {
                int w = random.nextInt(3) == 0 ? random.nextInt() : random.nextInt(4);
                write(offset, offset == 112 && random.nextBoolean() ? w | 64 : w);
            }
        }
        for (int n : new int[] {1, 2, 8}) {
            Rig.due("read of " + n, rig.peek(Rig.BLOCK + 0, n), 0);
        }
        write(112, 0);
        rig.poke(Rig.BLOCK + 20, 8, 1);
        rig.poke(Rig.BLOCK + 20, 2, 1);
        checkRead(16);
        rig.poke(Rig.BLOCK + 112, 4, 256);
        state = 0;
        checkRead(112);
        write(112, 64);
        write(112, 256);
        Rig.due("bit 6 stays", rig.peek(Rig.BLOCK + 112, 4), 64);
        checkRead(112);
        write(112, 0);
        checkRead(112);
    }

    /** A request may write over the offers: the device goes on by what stands there then, 64 times at most. */
    private static void goingOn() {
        long blocks = BLOCKS, offers = OFFERS, answers = ANSWERS;
        // Sectors 0 .. 63 all hold, in the bytes that reach the count of the offers, a count that is ahead.
        for (int s = 0; s < 200; s++) {
            for (int i = 0; i < 512; i++) {
                disk[512 * s + i] = 0;
            }
        }
        byte[] part = java.util.Arrays.copyOf(disk, 60000);
        rig.feed(part);
        rig.machine.load(BoardMachine.SECTORS, 0);
        set(offers, 2, 0);
        set(offers + 2, 2, 1);
        for (int i = 0; i < 16; i++) {
            set(offers + 4 + 2 * i, 2, 0);
        }
        long header = HEADS;
        set(header, 4, 4);
        block(blocks, 0, header, 16, 1, 1);
        // The result goes into the upper byte of the count: the count is 1 for ever, the device's goes on.
        block(blocks, 1, offers + 3, 1, 2, 0);
        sync();
        setUp(16, blocks, offers, answers);
        write(80, 0);
        checkAll("one");
        // An answer that stands over the offers: the count of answers is the count of offers, always one ahead.
        set(offers + 2, 2, 1);
        sync();
        setUp(16, blocks, offers, offers - 0);
        block(blocks, 1, BUFFERS, 1, 2, 0);
        set(offers, 2, 0);
        set(offers + 2, 2, 7);
        sync();
        write(80, 0);
        checkAll("seven");
        // The name is written over the count: 'lb' is far ahead, and it breaks behind one answer.
        set(header, 4, 8);
        block(blocks, 1, offers + 1, 6, 2, 0);
        set(offers, 2, 0);
        set(offers + 2, 2, 1);
        sync();
        setUp(16, blocks, offers, answers);
        write(80, 0);
        checkAll("name");
        Rig.due("broken, and something answered", rig.peek(Rig.BLOCK + 96, 4) & 2, 2);
    }

    /** Each request brings, from the disk, the next count and the next sector: one working answers 64 of them. */
    private static void sixtyFour() {
        byte[] chain = new byte[512 * 100];
        for (int s = 0; s < 100; s++) {
            chain[512 * s] = (byte) (s == 63 ? 1 : 0);
            chain[512 * s + 2] = (byte) (s + 2);
            chain[512 * s + 4] = (byte) (s + 1);
        }
        System.arraycopy(chain, 0, disk, 0, chain.length);
        rig.feed(chain);
        rig.machine.load(BoardMachine.SECTORS, 0);
        long header = HEADS;
        set(header, 4, 0);
        set(header + 4, 4, 0);
        set(header + 8, 8, 0);
        set(OFFERS, 2, 0);
        set(OFFERS + 2, 2, 1);
        for (int i = 0; i < 16; i++) {
            set(OFFERS + 4 + 2 * i, 2, 0);
        }
        block(BLOCKS, 0, header, 16, 1, 1);
        block(BLOCKS, 1, OFFERS, 4, 3, 2);
        block(BLOCKS, 2, header + 8, 8, 3, 3);
        block(BLOCKS, 3, BUFFERS, 500, 3, 4);
        block(BLOCKS, 4, BUFFERS + 0x1000, 1, 2, 0);
        sync();
        setUp(16, BLOCKS, OFFERS, ANSWERS);
        write(80, 0);
        Rig.due("64 of them", taken, 64);
        Rig.due("the marks that were read last", rig.peek(Rig.BLOCK + 96, 4), 0);
        checkAll("64 of them");
        write(80, 0);
        Rig.due("the others", taken, 101);
        checkAll("the others");
    }

    /** Whatever the device needs must be in memory: a queue that lies partly, or wholly, elsewhere. */
    private static void outside() {
        long end = Rig.BASE + 4194304;
        long header = HEADS;
        set(header, 4, 4);
        set(OFFERS, 2, 0);
        set(OFFERS + 2, 2, 1);
        set(OFFERS + 4, 2, 0);
        block(BLOCKS, 0, header, 16, 1, 1);
        block(BLOCKS, 1, BUFFERS, 1, 2, 0);
        sync();
        long[][] queues = {{BLOCKS, OFFERS, ANSWERS}, {end - 16, OFFERS, ANSWERS}, {0, OFFERS, ANSWERS},
            {-16, OFFERS, ANSWERS}, {BLOCKS, end - 4, ANSWERS}, {BLOCKS, end - 3, ANSWERS}, {BLOCKS, 0, ANSWERS},
            {BLOCKS, Rig.BASE - 2, ANSWERS}, {BLOCKS, -2, ANSWERS}, {BLOCKS, OFFERS, end - 11}, {BLOCKS, OFFERS, 0},
            {BLOCKS, OFFERS, Rig.BASE - 3}, {BLOCKS, OFFERS, Rig.BASE - 4}, {BLOCKS, OFFERS, -4}, {BLOCKS, OFFERS, end - 4},
            {BLOCKS, Rig.BASE - 4, ANSWERS}, {end - 15, OFFERS, ANSWERS}, {Rig.BASE - 16, OFFERS, ANSWERS}};
        for (long[] q : queues) {
            // The last word of memory tells, as offers, that one is there.
            rig.longs(end - 8, 1L << 48);
            setUp(16, q[0], q[1], q[2]);
            write(80, 0);
            boolean good = q[0] == BLOCKS && q[1] == OFFERS && q[2] == ANSWERS;
            Rig.due("broken", rig.peek(Rig.BLOCK + 112, 4), good ? 15 : 79);
            Rig.due("causes", rig.peek(Rig.BLOCK + 96, 4), good ? 1 : 2);
            checkAll("queue");
            set(BUFFERS, 1, 9);
            sync();
        }
        setUp(16, BLOCKS, OFFERS, end - 12);
        rig.poke(Rig.BLOCK + 80, 4, 0);
        Rig.due("an answer at the very end", rig.machine.word(end - 8), 1L << 32);
        Rig.due("its count", rig.machine.word(end - 12) & 0xFFFFFFFFL, 1L << 16);
        rig.poke(Rig.BLOCK + 112, 4, 0);
        // What stands before memory is not needed where it is not read.
        rig.longs(Rig.BASE + 0x300000, 0);
        setUp(16, BLOCKS, OFFERS, Rig.BASE - 2);
        rig.longs(Rig.BASE, -1L, -1L);
        rig.machine.start();
        rig.words(Rig.BASE + 0x1000, Rig.lui(1, 0x10001), Rig.store(4, 0, 1, 80), Rig.jal(0, 0));
        rig.words(Rig.BASE, Rig.jal(0, 0x1000));
        rig.machine.run(5);
        Rig.due("the count of answers in the first bytes", rig.machine.word(Rig.BASE) & 0xFFFF, 1);
        Rig.due("the answer behind it", rig.machine.word(Rig.BASE + 2), 1L << 32);
        rig.poke(Rig.BLOCK + 112, 4, 0);
        write(112, 0);
        sync();
        // A size of 1 has no room for a request, one of 2 has.
        for (int n = 1; n <= 2; n++) {
            setUp(n, BLOCKS, OFFERS, ANSWERS);
            write(80, 0);
            Rig.due("size " + n, rig.peek(Rig.BLOCK + 112, 4), n == 1 ? 79 : 15);
            checkAll("size " + n);
        }
    }

    /** Without bit 2 of the state, with bit 6, or not ready, nothing happens. */
    private static void notWorking() {
        set(HEADS, 4, 4);
        set(OFFERS, 2, 0);
        set(OFFERS + 2, 2, 1);
        set(OFFERS + 4, 2, 0);
        block(BLOCKS, 0, HEADS, 16, 1, 1);
        block(BLOCKS, 1, BUFFERS, 1, 2, 0);
        set(BUFFERS, 1, 9);
        sync();
        setUp(16, BLOCKS, OFFERS, ANSWERS);
        for (int word : new int[] {11, 0xFB, 64 + 15}) {
            write(112, 0);
            setUp(16, BLOCKS, OFFERS, ANSWERS);
            write(112, word);
            write(80, 0);
            Rig.due("nothing by the state " + word, rig.machine.word(BUFFERS) & 255, 9);
            checkAll("nothing");
        }
        setUp(16, BLOCKS, OFFERS, ANSWERS);
        write(68, 0);
        write(80, 0);
        Rig.due("nothing when not ready", rig.machine.word(BUFFERS) & 255, 9);
        write(68, 1);
        write(80, 0);
        Rig.due("done when ready", rig.machine.word(BUFFERS) & 255, 0);
        checkAll("done");
        // Its counts stay when it is made not ready, and ready again.
        write(68, 0);
        write(68, 1);
        set(OFFERS + 2, 2, 2);
        set(OFFERS + 6, 2, 0);
        sync();
        write(80, 0);
        Rig.due("the second answer", rig.machine.word(ANSWERS + 2) & 65535, 2);
        checkAll("counts");
    }

    /** Blocks that lead round for ever break the device, whatever its size. */
    private static void rounds() {
        for (int n = 1; n <= 16; n *= 2) {
            for (int open = 0; open < 2; open++) {
                set(OFFERS, 2, 0);
                set(OFFERS + 2, 2, 1);
                set(OFFERS + 4, 2, 0);
                for (int k = 0; k < 16; k++) {
                    block(BLOCKS, k, HEADS, 16, open == 1 && k > 0 ? 3 : 1, Math.max(k + 1 < n ? k + 1 : n - 1, 0));
                }
                sync();
                setUp(n, BLOCKS, OFFERS, ANSWERS);
                write(80, 0);
                Rig.due("broken by a round of " + n, rig.peek(Rig.BLOCK + 112, 4), 79);
                checkAll("round of " + n);
            }
        }
    }

    private static void signal() {
        rig.poke(Rig.CONTROLLER + 4, 4, 3);
        rig.poke(Rig.CONTROLLER + 8192, 4, 2);
        long header = HEADS;
        set(header, 4, 4);
        block(BLOCKS, 0, header, 16, 1, 1);
        block(BLOCKS, 1, BUFFERS, 1, 2, 0);
        set(OFFERS, 2, 0);
        set(OFFERS + 2, 2, 1);
        set(OFFERS + 4, 2, 0);
        sync();
        setUp(16, BLOCKS, OFFERS, ANSWERS);
        rig.peek(Rig.CONTROLLER + 2097156, 4);
        rig.poke(Rig.CONTROLLER + 2097156, 4, 1);
        Rig.due("off", rig.csr(836), 0);
        write(80, 0);
        Rig.due("on", rig.csr(836), 2048);
        Rig.due("claimed", rig.peek(Rig.CONTROLLER + 2097156, 4), 1);
        Rig.due("off when claimed", rig.csr(836), 0);
        rig.poke(Rig.CONTROLLER + 2097156, 4, 1);
        Rig.due("on again as long as there is a cause", rig.csr(836), 2048);
        write(100, 1);
        Rig.due("it goes on to wait", rig.csr(836), 2048);
        Rig.due("claimed", rig.peek(Rig.CONTROLLER + 2097156, 4), 1);
        rig.poke(Rig.CONTROLLER + 2097156, 4, 1);
        Rig.due("off", rig.csr(836), 0);
    }

    /** What the device stores undoes reservations, and its working is over when the step is. */
    private static void reservations() {
        long header = HEADS;
        set(header, 4, 8);
        block(BLOCKS, 0, header, 16, 1, 1);
        block(BLOCKS, 1, BUFFERS, 8, 2, 0);
        set(OFFERS, 2, 1);
        set(OFFERS + 2, 2, 1);
        set(OFFERS + 4, 2, 0);
        sync();
        setUp(16, BLOCKS, OFFERS, ANSWERS);
        rig.exec(new long[] {BUFFERS, Rig.BLOCK + 80}, Rig.amo(2, 8, 3, 1, 0), Rig.store(4, 0, 2, 0), Rig.ld(4, 1, 0),
                Rig.amo(3, 8, 5, 1, 2));
        work();
        Rig.due("the name", rig.x(4), 0x00006B636F6C62L & 0xFFFFFFFFFFFFFFL);
        Rig.due("the reservation is lost", rig.x(5), 1);
        checkAll("reservations");
    }

    public static void main(String[] args) {
        registers();
        randomRequests();
        goingOn();
        sixtyFour();
        outside();
        notWorking();
        rounds();
        signal();
        reservations();
        Rig.due("breaches", rig.machine.breaches(), 0);
        Rig.finish("DiskTest");
    }
}
