import java.util.Arrays;

/** Part 9: each sentence that names a boundary case, each on a new machine. */
public final class EdgesImageTest {
    private static final long BASE = Rig.BASE, BEHIND = BASE + 4194304, TREE = BASE + 4186112;
    private static final int[] BEGINS = {127, 69, 76, 70, 2, 1, 1};

    /** An image to be bent: n segments, the k-th one of 8 bytes at BASE + 0x1000 (k + 1), 16 in memory. */
    private static final class Image {
        byte[] bytes;

        Image(int n) {
            bytes = new byte[64 + 56 * n + 8 * n];
            for (int i = 0; i < BEGINS.length; i++) {
                bytes[i] = (byte) BEGINS[i];
            }
            put(16, 2, 2).put(18, 2, 243).put(20, 4, 1).put(24, 8, BASE + 0x1000).put(32, 8, 64).put(52, 2, 64).put(54, 2, 56)
                    .put(56, 2, n);
            for (int k = 0; k < n; k++) {
                segment(k, 1, 64 + 56 * n + 8 * k, BASE + 0x1000 * (k + 1), 8, 16);
                put(64 + 56 * n + 8 * k, 8, 0x1111111111111111L * (k + 1));
            }
        }

        Image put(int at, int n, long v) {
            for (int i = 0; i < n; i++) {
                bytes[at + i] = (byte) (v >>> 8 * i);
            }
            return this;
        }

        Image segment(int k, long type, long o, long a, long f, long m) {
            int p = 64 + 56 * k;
            return put(p, 4, type).put(p + 8, 8, o).put(p + 24, 8, a).put(p + 32, 8, f).put(p + 40, 8, m);
        }

        Image cut(int n) {
            bytes = Arrays.copyOf(bytes, n);
            return this;
        }
    }

    /** Loads an image into a new machine whose memory is all 0x55 where segments go; answers the machine. */
    private static BoardMachine load(String what, Image image, int want) {
        Rig rig = new Rig(1);
        byte[] fill = new byte[0x8000];
        Arrays.fill(fill, (byte) 0x55);
        rig.bytes(BASE + 0x1000, fill);
        long before = rig.machine.sum(BASE, BASE + 65536);
        rig.feed(image.bytes);
        Rig.due(what, rig.machine.load(BoardMachine.IMAGE, -1), want);
        if (want != 0) {
            Rig.due(what + ": nothing is loaded", rig.machine.sum(BASE, BASE + 65536), before);
        }
        Rig.throwing(what + ": the tape is used up", Rig.ARGUMENT, () -> {
            rig.machine.end(1);
            return 0;
        });
        rig.machine.start();
        long entry = 0;
        for (int i = 7; want == 0 && i >= 0; i--) {
            entry = entry << 8 | image.bytes[24 + i] & 255;
        }
        Rig.due(what + ": the entry", rig.machine.counter(0), want == 0 ? entry : BASE);
        return rig.machine;
    }

    // "It is refused by the first of these that does not hold".

    private static void headers() {
        load("a good one", new Image(1), 0);
        load("no byte", new Image(1).cut(0), 1);
        load("63 bytes", new Image(1).cut(63), 1);
        load("64 bytes, without its segment", new Image(1).cut(64), 4);
        for (int i = 0; i < 7; i++) {
            load("byte " + i, new Image(1).put(i, 1, BEGINS[i] ^ 128), 2);
        }
        load("byte 7 is any", new Image(1).put(7, 1, 255), 0);
        load("bytes 8 .. 15 are any", new Image(1).put(8, 8, -1), 0);
        load("2 at 16", new Image(1).put(16, 2, 3), 3);
        load("2 at 16, the upper one", new Image(1).put(16, 2, 2 | 1 << 8), 3);
        load("2 at 18", new Image(1).put(18, 2, 242), 3);
        load("2 at 18, the upper one", new Image(1).put(18, 2, 243 | 128 << 8), 3);
        load("4 at 20", new Image(1).put(20, 4, 0), 3);
        load("4 at 20, the uppermost", new Image(1).put(20, 4, 1 | 1 << 31), 3);
        load("40 .. 51 are any", new Image(1).put(40, 8, -1).put(48, 4, -1), 0);
        load("2 at 52", new Image(1).put(52, 2, 63), 4);
        load("2 at 54", new Image(1).put(54, 2, 55), 4);
        load("2 at 52, the upper one", new Image(1).put(52, 2, 64 | 1 << 8), 4);
        load("2 at 54, the upper one", new Image(1).put(54, 2, 56 | 128 << 8), 4);
        load("58 .. 63 are any", new Image(1).put(58, 6, -1), 0);
    }

    private static void segmentCounts() {
        load("n 0", new Image(1).put(56, 2, 0), 4);
        load("n 16", new Image(16), 0);
        load("n 17", new Image(17), 4);
        load("n 65535", new Image(17).put(56, 2, 65535), 4);
        load("n 256 + 1", new Image(1).put(56, 2, 257), 4);
        int length = new Image(1).bytes.length;
        load("t + 56 n at the end", new Image(1).put(32, 8, length - 56), 0);
        load("t + 56 n beyond the end by 1", new Image(1).put(32, 8, length - 55), 4);
        load("t at the end", new Image(1).put(32, 8, length), 4);
        load("t that wraps to the end", new Image(1).put(32, 8, -56), 4);
        load("t that wraps to 1", new Image(1).put(32, 8, -55), 4);
        load("the greatest t with sign", new Image(1).put(32, 8, Long.MAX_VALUE), 4);
        load("the least t with sign", new Image(1).put(32, 8, Long.MIN_VALUE), 4);
        load("t with bits above 32", new Image(1).put(32, 8, 1L << 32 | 64), 4);
        // The header itself may be the table: its first four bytes are no 1.
        load("t 0", new Image(1).put(32, 8, 0), 0);
    }

    private static Image one(long o, long a, long f, long m) {
        return new Image(1).segment(0, 1, o, a, f, m);
    }

    private static void segments() {
        int length = new Image(1).bytes.length;
        load("o + f at the end", one(length - 8, BASE, 8, 8), 0);
        load("o + f beyond the end", one(length - 7, BASE, 8, 8), 5);
        load("o at the end, f 0", one(length, BASE, 0, 8), 0);
        load("o beyond the end, f 0", one(length + 1, BASE, 0, 8), 5);
        load("o + f that wraps", one(-8, BASE, 8, 8), 5);
        load("o + f that wraps to 0", one(-8, BASE, 16, 16), 5);
        load("the greatest o", one(-1, BASE, 1, 1), 5);
        load("the greatest f", one(0, BASE, -1, -1), 5);
        load("f above m", one(0, BASE, 9, 8), 5);
        load("f as m", one(0, BASE, 8, 8), 0);
        load("f above m 0", one(0, BASE, 1, 0), 5);
        load("m without sign", one(0, BASE, 8, -1), 6);
        load("the first byte of memory", one(0, BASE, 1, 1), 0);
        load("before it", one(0, BASE - 1, 1, 1), 6);
        load("before and in it", one(0, BASE - 1, 2, 2), 6);
        load("the last byte of memory", one(0, BEHIND - 1, 1, 1), 0);
        load("behind it", one(0, BEHIND, 1, 1), 6);
        load("the last byte and behind it", one(0, BEHIND - 1, 1, 2), 6);
        load("all of memory", one(0, BASE, 8, 4194304), 0);
        load("all of memory and 1", one(0, BASE, 8, 4194305), 6);
        load("a + m that wraps", one(0, -8, 8, 16), 6);
        load("a far away", one(0, 1L << 32 | BASE, 8, 8), 6);
        load("a with its highest bit", one(0, Long.MIN_VALUE | BASE, 8, 8), 6);
        // Of eight bytes the highest counts, too.
        load("o with its highest byte", one(1L << 56, BASE, 8, 8), 5);
        load("f with its highest byte", one(0, BASE, 1L << 56 | 8, 1L << 57), 5);
        load("a with its highest byte", one(0, 1L << 56 | BASE, 8, 8), 6);
        load("m with its highest byte", one(0, BASE, 8, 1L << 56 | 8), 6);
        load("no byte in memory, anywhere", one(0, 0, 0, 0), 0);
        load("no byte in memory, behind memory", one(0, BEHIND, 0, 0), 0);
        load("no byte in memory, at the last address", one(0, -1, 0, 0), 0);
    }

    private static Image two(long a, long m) {
        return new Image(2).segment(1, 1, 64, a, 0, m);
    }

    /** The first one has the bytes from BASE + 0x1000 on to before BASE + 0x1010. */
    private static void overlaps() {
        long first = BASE + 0x1000;
        load("just behind", two(first + 16, 8), 0);
        load("its last byte", two(first + 15, 8), 7);
        load("just before", two(first - 8, 8), 0);
        load("its first byte", two(first - 7, 8), 7);
        load("within", two(first + 4, 4), 7);
        load("around", two(first - 4, 64), 7);
        load("the same", two(first, 16), 7);
        load("no byte within", two(first + 4, 0), 0);
        load("an earlier one without bytes", new Image(2).segment(0, 1, 64, first + 4, 0, 0).segment(1, 1, 64, first, 8, 16), 0);
        load("an earlier one that is passed over", new Image(2).segment(0, 2, 64, first, 8, 16).segment(1, 1, 64, first, 8, 16), 0);
        load("the third with the first", new Image(3).segment(2, 1, 64, first + 8, 8, 8), 7);
    }

    private static void types() {
        for (long type : new long[] {0, 2, 3, 257, 1 << 31 | 1, 0x10001}) {
            Image image = new Image(2).segment(0, type, -1, -1, -1, 0);
            BoardMachine m = load("the type " + type + " is passed over", image, 0);
            Rig.due("the other one is loaded", m.word(BASE + 0x2000), 0x2222222222222222L);
            Rig.due("it is not", m.word(BASE + 0x1000), 0x5555555555555555L);
            m = load("a good one of the type " + type, new Image(2).put(64, 4, type), 0);
            Rig.due("nothing of it is loaded", m.word(BASE + 0x1000), 0x5555555555555555L);
            Rig.due("nor zeros behind it", m.word(BASE + 0x1008), 0x5555555555555555L);
        }
    }

    private static void entries() {
        load("an odd entry", new Image(1).put(24, 8, BASE + 1), 8);
        load("the first entry", new Image(1).put(24, 8, BASE), 0);
        load("one before", new Image(1).put(24, 8, BASE - 2), 8);
        load("the last entry", new Image(1).put(24, 8, BEHIND - 2), 0);
        load("one behind", new Image(1).put(24, 8, BEHIND), 8);
        load("the entry 0", new Image(1).put(24, 8, 0), 8);
        load("the entry -2", new Image(1).put(24, 8, -2), 8);
        load("an entry with its highest byte", new Image(1).put(24, 8, 1L << 56 | BASE), 8);
        load("an entry with its highest bit", new Image(1).put(24, 8, 1L << 63 | BASE), 8);
        load("an entry that is in no segment", new Image(1).put(24, 8, BASE + 0x300000), 0);
    }

    /** For each k in order 5, 6, 7; and then 8. */
    private static void order() {
        Image bad = new Image(3).put(24, 8, 1).segment(2, 1, 64, BASE + 0x1000, 8, 8);
        load("7 of the third before 8", bad, 7);
        load("6 of the second before 7 of the third", bad.segment(1, 1, 64, 0, 8, 8), 6);
        load("5 of the first before 6 of the second", bad.segment(0, 1, 64, BASE, 9, 8), 5);
        load("5 before 6 of the same", new Image(1).segment(0, 1, 64, 0, 9, 8), 5);
        load("6 before 7 of the same", two(BASE - 8, 64).segment(0, 1, 64, BASE, 8, 8), 6);
        load("4 before 5", bad.put(54, 2, 0), 4);
        load("3 before 4", bad.put(20, 4, 2), 3);
        load("2 before 3", bad.put(0, 1, 0), 2);
        load("1 before 2", bad.cut(63), 1);
    }

    /** "f bytes from o on go to a, and behind them bytes 0, up to m in all". */
    private static void loading() {
        BoardMachine m = load("f 8, m 16", new Image(1), 0);
        Rig.due("before it", m.word(BASE + 0xFF8), 0);
        Rig.due("its bytes", m.word(BASE + 0x1000), 0x1111111111111111L);
        Rig.due("zeros", m.word(BASE + 0x1008), 0);
        Rig.due("behind it", m.word(BASE + 0x1010), 0x5555555555555555L);
        m = load("f 0, m 3", one(0, BASE + 0x1001, 0, 3), 0);
        Rig.due("three zeros", m.word(BASE + 0x1000), 0x5555555500000055L);
        m = load("f 3, m 3", one(0, BASE + 0x1001, 3, 3), 0);
        Rig.due("three bytes", m.word(BASE + 0x1000), 0x555555554C457F55L);
        m = load("f 1, m 9", one(1, BASE + 0x1007, 1, 9), 0);
        Rig.due("its byte", m.word(BASE + 0x1000), 0x4555555555555555L);
        Rig.due("eight zeros", m.word(BASE + 0x1008), 0);
        Rig.due("behind them", m.word(BASE + 0x1010), 0x5555555555555555L);
        m = load("over the tree", one(0, TREE, 8, 4096), 0);
        Rig.due("start lays the tree down again", m.word(TREE) & 0xFFFFFFFFL, 0xEDFE0DD0L);
    }

    /** From each of eight places on, some bytes and some zeros: none before them, none behind. */
    private static void places() {
        for (int place = 0; place < 8; place++) {
            for (int f = 0; f <= 9; f += 3) {
                for (int zeros = 0; zeros < 18; zeros++) {
                    Rig rig = new Rig(1);
                    byte[] want = new byte[60];
                    Arrays.fill(want, (byte) 0x55);
                    rig.bytes(BASE + 0x1000, want);
                    rig.feed(one(0, BASE + 0x1010 + place, f, f + zeros).bytes);
                    rig.machine.load(BoardMachine.IMAGE, 0);
                    for (int i = 0; i < f + zeros; i++) {
                        want[16 + place + i] = (byte) (i < f && i < BEGINS.length ? BEGINS[i] : 0);
                    }
                    long sum = 0;
                    for (byte v : want) {
                        sum = sum * 31 + (v & 255);
                    }
                    Rig.due(f + " bytes and " + zeros + " zeros at " + place, rig.machine.sum(BASE + 0x1000, BASE + 0x103C), sum);
                }
            }
        }
    }

    /** The entry is that of the latest image that was not refused. */
    private static void latest() {
        Rig rig = new Rig(2);
        rig.feed(new Image(1).bytes);
        rig.machine.load(BoardMachine.IMAGE, 0);
        Rig.due("load() leaves the counters", rig.machine.counter(0), BASE);
        rig.machine.start();
        Rig.due("start() takes the entry", rig.machine.counter(0), BASE + 0x1000);
        Rig.due("for each processor", rig.machine.counter(1), BASE + 0x1000);
        rig.feed(new Image(1).put(24, 8, BASE + 0x2000).bytes);
        rig.machine.load(BoardMachine.IMAGE, 0);
        rig.machine.start();
        Rig.due("the latest one", rig.machine.counter(0), BASE + 0x2000);
        rig.feed(new Image(1).put(24, 8, BASE + 0x3001).bytes);
        Rig.due("refused", rig.machine.load(BoardMachine.IMAGE, 0), 8);
        rig.machine.start();
        Rig.due("the latest that was not refused", rig.machine.counter(0), BASE + 0x2000);
        rig.words(BASE, Rig.NOP);
        rig.machine.start();
        Rig.due("BYTES are no image", rig.machine.counter(0), BASE + 0x2000);
    }

    /** The tree's bytes, at their edges, for each number of processors. */
    private static void trees() {
        for (int h = 1; h <= 4; h++) {
            BoardMachine m = new BoardMachine(h);
            int size = m.start();
            Rig.due("bytes of the tree", size, 1452 + 264 * (h - 1));
            Rig.due("how many there are in all", Integer.reverseBytes((int) m.word(TREE + 4)), size);
            Rig.due("its first number", Integer.reverseBytes((int) m.word(TREE)), (int) 3490578157L);
            Rig.due("the last name's byte 0", m.sum(TREE + size - 1, TREE + size), 0);
            Rig.due("the last name", m.sum(TREE + size - 2, TREE + size - 1), 't');
            Rig.due("nothing behind it", m.word(TREE + size), 0);
            Rig.due("nothing before it", m.word(TREE - 8), 0);
            int names = Integer.reverseBytes((int) m.word(TREE + 12));
            Rig.due("9 before the names", Integer.reverseBytes((int) m.word(TREE + names - 4)), 9);
            Rig.due("2 before it", Integer.reverseBytes((int) m.word(TREE + names - 8)), 2);
            Rig.due("a node whose name has no character", Integer.reverseBytes((int) m.word(TREE + 56)), 1);
            Rig.due("it is a byte 0, filled up", (int) m.word(TREE + 60), 0);
        }
    }

    public static void main(String[] args) {
        headers();
        segmentCounts();
        segments();
        overlaps();
        types();
        entries();
        order();
        loading();
        places();
        latest();
        trees();
        Rig.finish("EdgesImageTest");
    }
}
