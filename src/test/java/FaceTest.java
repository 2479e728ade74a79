import java.util.Random;

/** Every call of the face: what it answers, at its edges, and what wrong calls throw and leave as it was. */
public final class FaceTest {
    private static final int STATE = Rig.STATE, ARGUMENT = Rig.ARGUMENT, INDEX = Rig.INDEX;
    private static final Random random = new Random(31);

    private static void throwing(String what, int want, Rig.Call call) {
        Rig.throwing(what, want, call);
    }

    private static void newObjects() {
        for (int p = -1; p <= 6; p++) {
            BoardMachine m = new BoardMachine(p);
            int count = p >= 1 && p <= 4 ? p : 1;
            Rig.due("processors of " + p, m.processors(), count);
            for (int h = 0; h < count; h++) {
                Rig.due("counter", m.counter(h), Rig.BASE);
                Rig.due("mode", m.mode(h), 3);
                for (int r = 0; r < 32; r++) {
                    Rig.due("register " + r, m.register(h, r), r == 10 ? h : r == 11 ? Rig.BASE + 4186112 : 0);
                    Rig.due("floating " + r, m.floating(h, r), 0);
                }
                Rig.due("status", m.control(h, 768), 10L << 32);
                Rig.due("number", m.control(h, 3860), h);
                Rig.due("cycles", m.control(h, 2816), 0);
            }
            Rig.due("code", m.code(), BoardMachine.NONE);
            Rig.due("sent", m.sent(), 0);
            Rig.due("out", m.out(0), -1);
            Rig.due("waiting", m.waiting(), 0);
            Rig.due("changed", m.changed(), 0);
            Rig.due("time", m.time(), 0);
            Rig.due("breaches", m.breaches(), 0);
            Rig.due("memory", m.word(Rig.BASE) | m.word(Rig.BASE + 4194304 - 8), 0);
            Rig.due("disk", m.disk(0) | m.disk(1048575), 0);
            Rig.due("the tree", m.start(), 1452 + 264 * (count - 1));
        }
        BoardMachine far = new BoardMachine(Integer.MIN_VALUE);
        Rig.due("processors", far.processors() + new BoardMachine(Integer.MAX_VALUE).processors(), 2);
        Rig.due("NONE", BoardMachine.NONE, -1);
        Rig.due("kinds", BoardMachine.BYTES + 10 * BoardMachine.IMAGE + 100 * BoardMachine.SECTORS
                + 1000 * BoardMachine.INPUT, 3210);
    }

    private static void tape() {
        BoardMachine m = new BoardMachine(1);
        Rig.due("feed", m.feed(0x01020304, 0x05060708, 0x090A0B0C, 0x0D0E0F10, 0x11121314), 20);
        Rig.due("feed", m.feed(-1, 0, 0, 0, 0x80000001), 40);
        throwing("end below 0", ARGUMENT, () -> { m.end(-1); return 0; });
        throwing("end far below 0", ARGUMENT, () -> { m.end(Integer.MIN_VALUE); return 0; });
        throwing("end beyond", ARGUMENT, () -> { m.end(41); return 0; });
        throwing("end far beyond", ARGUMENT, () -> { m.end(Integer.MAX_VALUE); return 0; });
        m.end(40);
        Rig.due("load", m.load(BoardMachine.BYTES, Rig.BASE + 8), 40);
        Rig.due("first bytes", m.word(Rig.BASE + 8), 0x0807060504030201L);
        Rig.due("next bytes", m.word(Rig.BASE + 24), 0xFFFFFFFF14131211L);
        Rig.due("last bytes", m.word(Rig.BASE + 40), 0x0100008000000000L);
        Rig.due("behind them", m.word(Rig.BASE + 48), 0);
        Rig.due("the tape is empty", m.load(BoardMachine.BYTES, Rig.BASE), 0);
        m.feed(-1, -1, -1, -1, -1);
        m.end(3);
        Rig.due("behind a cut", m.feed(0x55000000, 0, 0, 0, 0), 23);
        Rig.due("load", m.load(BoardMachine.BYTES, Rig.BASE), 23);
        Rig.due("cut and fed", m.word(Rig.BASE), 0x55FFFFFFL);
        m.end(0);
        throwing("end of an empty one", ARGUMENT, () -> { m.end(1); return 0; });
        int count = 0;
        for (int i = 0; i < 3276; i++) {
            count = m.feed(i, i, i, i, i);
        }
        Rig.due("feed", count, 65520);
        throwing("feed", STATE, () -> m.feed(1, 2, 3, 4, 5));
        throwing("feed left it", ARGUMENT, () -> { m.end(65521); return 0; });
        m.end(65516);
        Rig.due("feed up to the limit", m.feed(9, 9, 9, 9, 9), 65536);
        throwing("feed", STATE, () -> m.feed(1, 2, 3, 4, 5));
        Rig.due("load", m.load(BoardMachine.BYTES, Rig.BASE), 65536);
        Rig.due("loaded", m.word(Rig.BASE + 65528), 0x0900000009000000L);
    }

    private static void loading() {
        Rig rig = new Rig(1);
        BoardMachine m = rig.machine;
        byte[] bytes = {1, 2, 3, 4, 5, 6, 7, 8, 9, 10};
        rig.feed(bytes);
        throwing("kind 4", ARGUMENT, () -> m.load(4, Rig.BASE));
        throwing("kind -1", ARGUMENT, () -> m.load(-1, 0));
        throwing("kind before address", ARGUMENT, () -> m.load(Integer.MIN_VALUE, Long.MIN_VALUE));
        for (long a : new long[] {Rig.BASE - 1, Rig.BASE - 10, 0, -1, Rig.BASE + 4194304 - 9, Rig.BASE + 4194304,
            Long.MAX_VALUE, Long.MIN_VALUE, Long.MIN_VALUE + Rig.BASE, 1L << 32 | Rig.BASE}) {
            throwing("bytes at " + a, INDEX, () -> m.load(BoardMachine.BYTES, a));
        }
        for (long s : new long[] {-1, 2048, Long.MIN_VALUE, Long.MAX_VALUE, 1L << 55, 1L << 32}) {
            throwing("sectors at " + s, INDEX, () -> m.load(BoardMachine.SECTORS, s));
        }
        Rig.due("the tape stayed", m.load(BoardMachine.BYTES, Rig.BASE + 4194304 - 10), 10);
        Rig.due("the last bytes", m.word(Rig.BASE + 4194304 - 8), 0x0A09080706050403L);
        for (int kind : new int[] {BoardMachine.BYTES, BoardMachine.SECTORS, BoardMachine.INPUT}) {
            for (long a : new long[] {-1, 0, Long.MAX_VALUE, Long.MIN_VALUE}) {
                Rig.due("an empty tape", m.load(kind, a), 0);
            }
        }
        Rig.due("an empty image", m.load(BoardMachine.IMAGE, 0), 1);
        throwing("an empty tape of no kind", ARGUMENT, () -> m.load(4, 0));
    }

    private static void sectors() {
        Rig rig = new Rig(1);
        BoardMachine m = rig.machine;
        byte[] bytes = new byte[1024];
        random.nextBytes(bytes);
        rig.feed(bytes);
        Rig.due("two sectors", m.load(BoardMachine.SECTORS, 2046), 1024);
        for (int i = 0; i < 1024; i++) {
            Rig.due("byte of the disk", m.disk(2046 * 512 + i), bytes[i] & 255);
        }
        Rig.due("before them", m.disk(2046 * 512 - 1), 0);
        rig.feed(new byte[] {-1, -2, -3});
        Rig.due("three bytes", m.load(BoardMachine.SECTORS, 2046), 3);
        for (int i = 0; i < 1024; i++) {
            Rig.due("byte of the disk", m.disk(2046 * 512 + i), i < 3 ? 255 - i : bytes[i] & 255);
        }
        rig.feed(new byte[513]);
        throwing("beyond the disk", INDEX, () -> m.load(BoardMachine.SECTORS, 2047));
        Rig.due("the tape stayed", m.load(BoardMachine.SECTORS, 2046), 513);
        Rig.due("overwritten", m.disk(2046 * 512 + 512), 0);
        Rig.due("not overwritten", m.disk(2046 * 512 + 513), bytes[513] & 255);
        Rig.due("no sector was written by the device", m.changed(), 0);
        throwing("disk -1", INDEX, () -> m.disk(-1));
        throwing("disk 1048576", INDEX, () -> m.disk(1048576));
        throwing("disk far", INDEX, () -> m.disk(Integer.MIN_VALUE));
        m.start();
        Rig.due("start keeps the disk", m.disk(2046 * 512 + 513), bytes[513] & 255);
    }

    private static void input() {
        Rig rig = new Rig(1);
        BoardMachine m = rig.machine;
        byte[] many = new byte[65536];
        for (int i = 0; i < many.length; i++) {
            many[i] = (byte) (i * 7 + i / 256);
        }
        rig.feed(java.util.Arrays.copyOf(many, 60000));
        Rig.due("input", m.load(BoardMachine.INPUT, -5), 60000);
        Rig.due("waiting", m.waiting(), 60000);
        rig.feed(java.util.Arrays.copyOfRange(many, 60000, 65536 - 1));
        Rig.due("input", m.load(BoardMachine.INPUT, 0), 5535);
        rig.feed(new byte[] {many[65535], 99, 98});
        Rig.due("as many as there is room for", m.load(BoardMachine.INPUT, 0), 1);
        Rig.due("waiting", m.waiting(), 65536);
        Rig.due("the tape is used up", m.load(BoardMachine.INPUT, 0), 0);
        m.start();
        Rig.due("start keeps it", m.waiting(), 65536);
        // A program that sums what comes, byte by byte, as sum() does.
        rig.words(Rig.BASE, Rig.lui(1, 0x10000), Rig.addi(5, 0, 31), Rig.i(3, 2, 4, 1, 5), Rig.i(19, 2, 7, 2, 1),
                Rig.branch(0, 2, 0, -8), Rig.i(3, 2, 4, 1, 0), Rig.r(51, 3, 0, 3, 5, 1), Rig.r(51, 3, 0, 3, 2, 0),
                Rig.addi(4, 4, 1), Rig.jal(0, -28));
        m.start();
        for (int i = 0; i < 70 && m.waiting() > 0; i++) {
            m.run(10000);
        }
        m.run(100);
        long sum = 0;
        for (byte b : many) {
            sum = sum * 31 + (b & 255);
        }
        Rig.due("bytes that came", m.register(0, 4), 65536);
        Rig.due("their sum", m.register(0, 3), sum);
        Rig.due("breaches", m.breaches(), 0);
        rig.feed(new byte[] {1});
        Rig.due("room again", m.load(BoardMachine.INPUT, 0), 1);
    }

    private static void indexes() {
        for (int count = 1; count <= 4; count++) {
            BoardMachine m = new BoardMachine(count);
            for (int p : new int[] {-1, count, 4, 5, Integer.MAX_VALUE, Integer.MIN_VALUE}) {
                throwing("counter " + p, INDEX, () -> m.counter(p));
                throwing("register " + p, INDEX, () -> m.register(p, 0));
                throwing("floating " + p, INDEX, () -> m.floating(p, 0));
                throwing("control " + p, INDEX, () -> m.control(p, 768));
                throwing("mode " + p, INDEX, () -> m.mode(p));
            }
            int last = count - 1;
            for (int r : new int[] {-1, 32, Integer.MAX_VALUE, Integer.MIN_VALUE}) {
                throwing("register " + r, INDEX, () -> m.register(last, r));
                throwing("floating " + r, INDEX, () -> m.floating(last, r));
                Rig.due("control " + r, m.control(last, r), 0);
            }
            Rig.due("the last ones", m.register(last, 31) + m.floating(last, 31), 0);
        }
    }

    private static void memory() {
        Rig rig = new Rig(1);
        BoardMachine m = rig.machine;
        byte[] bytes = new byte[65500];
        random.nextBytes(bytes);
        rig.bytes(Rig.BASE + 100, bytes);
        for (int i = 0; i < 2000; i++) {
            int at = random.nextInt(65490);
            long want = 0;
            for (int j = 7; j >= 0; j--) {
                want = want << 8 | bytes[at + j] & 255;
            }
            Rig.due("word", m.word(Rig.BASE + 100 + at), want);
            int n = random.nextInt(200);
            n = Math.min(n, 65500 - at);
            long sum = 0, power = 1;
            for (int j = n - 1; j >= 0; j--) {
                sum += (bytes[at + j] & 255) * power;
                power *= 31;
            }
            Rig.due("sum", m.sum(Rig.BASE + 100 + at, Rig.BASE + 100 + at + n), sum);
        }
        for (long a : new long[] {Rig.BASE - 1, Rig.BASE - 8, 0, -8, Rig.BASE + 4194304 - 7, Rig.BASE + 4194304,
            Long.MAX_VALUE, Long.MIN_VALUE, 1L << 32 | Rig.BASE}) {
            throwing("word " + a, INDEX, () -> m.word(a));
            Rig.due("sum of none " + a, m.sum(a, a), 0);
        }
        throwing("sum before memory", INDEX, () -> m.sum(Rig.BASE - 1, Rig.BASE));
        throwing("sum over its beginning", INDEX, () -> m.sum(Rig.BASE - 1, Rig.BASE + 1));
        throwing("sum over its end", INDEX, () -> m.sum(Rig.BASE + 4194303, Rig.BASE + 4194305));
        throwing("sum elsewhere", INDEX, () -> m.sum(0, 65536));
        throwing("sum backwards", ARGUMENT, () -> m.sum(Rig.BASE + 1, Rig.BASE));
        throwing("sum of too many", ARGUMENT, () -> m.sum(Rig.BASE, Rig.BASE + 65537));
        throwing("sum of too many elsewhere", ARGUMENT, () -> m.sum(0, 65537));
        throwing("sum of all", ARGUMENT, () -> m.sum(Long.MIN_VALUE, Long.MAX_VALUE));
        throwing("sum far backwards", ARGUMENT, () -> m.sum(Long.MAX_VALUE, Long.MIN_VALUE));
        throwing("sum of none but one elsewhere", INDEX, () -> m.sum(-1, 0));
        Rig.due("sum of 65536", m.sum(Rig.BASE + 4194304 - 65536, Rig.BASE + 4194304) != 1);
    }

    private static void runs() {
        Rig rig = new Rig(2);
        BoardMachine m = rig.machine;
        rig.words(Rig.BASE, Rig.addi(5, 5, 1), Rig.jal(0, -4));
        m.start();
        throwing("run -1", ARGUMENT, () -> m.run(-1));
        throwing("run 10001", ARGUMENT, () -> m.run(10001));
        throwing("run far", ARGUMENT, () -> m.run(Integer.MIN_VALUE));
        Rig.due("nothing ran", m.register(0, 5) + m.control(0, 2816), 0);
        Rig.due("run 0", m.run(0), 0);
        Rig.due("run", m.run(10000), 10000);
        Rig.due("register", m.register(1, 5), 5000);
        Rig.due("cycles", m.control(1, 2816), 10000);
        Rig.due("instructions", m.control(1, 2818), 10000);
        Rig.due("time", m.time(), 1000);
        m.start();
        Rig.due("cycles behind start", m.control(1, 2816) + m.control(1, 2818) + m.register(1, 5), 0);
        Rig.due("time stays", m.time(), 1000);
    }

    private static void ends() {
        long[][] cases = {{0x5555, 0}, {0x12345555, 0}, {0x3333, 0}, {0x00013333, 1}, {0xFFFF3333L, 65535},
            {0x80003333L, 32768}, {0x5554, -1}, {0x3334, -1}, {0, -1}, {0x55550000, -1}};
        for (long[] one : cases) {
            Rig rig = new Rig(3);
            BoardMachine m = rig.machine;
            rig.longs(Rig.DATA, one[0], Rig.END);
            rig.words(Rig.BASE, Rig.auipc(1, 0x10), Rig.ld(2, 1, 0), Rig.ld(3, 1, 8), Rig.branch(1, 10, 4, 8),
                    Rig.addi(9, 0, 1), Rig.addi(4, 0, 1), Rig.branch(1, 10, 4, 0), Rig.store(4, 2, 3, 0),
                    Rig.addi(5, 5, 1), Rig.jal(0, -4));
            m.start();
            Rig.due("the code before", m.code(), -1);
            int rounds = m.run(100);
            boolean over = one[1] >= 0;
            Rig.due("code of " + one[0], m.code(), one[1]);
            if (!over) {
                Rig.due("rounds", rounds, 100);
                continue;
            }
            // Processor 1 comes to the store in round 7: it jumps over one word.
            long cycles = m.control(0, 2816);
            Rig.due("the round of the end counts", rounds, cycles + 1);
            Rig.due("processor 0 made its step", m.control(0, 2818), rounds);
            Rig.due("the store is counted", m.control(1, 2818), rounds);
            Rig.due("processor 2 made none", m.control(2, 2818), rounds - 1);
            Rig.due("run goes no further", m.run(50), 0);
            Rig.due("time", m.time(), 0);
            Rig.due("nothing came behind it", m.register(1, 5), 0);
            m.start();
            Rig.due("the code behind start", m.code(), -1);
            Rig.due("it runs again", m.run(3), 3);
        }
        // Other sizes, and other places, are lost.
        Rig rig = new Rig(1);
        for (int n : new int[] {1, 2, 8}) {
            rig.poke(Rig.END, n, 0x5555);
            Rig.due("a store of " + n, rig.machine.code(), -1);
        }
        rig.poke(Rig.END + 4, 4, 0x5555);
        rig.poke(Rig.END + 4092, 4, 0x5555);
        Rig.due("stores elsewhere", rig.machine.code(), -1);
        Rig.due("it reads 0", rig.peek(Rig.END, 4) + rig.peek(Rig.END, 8) + rig.peek(Rig.END + 4095, 1), 0);
        Rig.due("no trap", rig.csr(834), 0);
    }

    private static void starts() {
        Rig rig = new Rig(2);
        BoardMachine m = rig.machine;
        rig.exec(new long[] {-1L, 0x6000, Rig.DATA, 0x80, 8}, Rig.csrrw(0, 768, 2), Rig.i(7, 3, 3, 3, 0), Rig.csrrw(0, 3, 1),
                Rig.csrrw(0, 832, 1), Rig.csrrw(0, 944, 1), Rig.csrrw(0, 384, 5), Rig.csrrw(0, 928, 4),
                Rig.csrrw(0, 773, 1), Rig.store(8, 1, 3, 0x100));
        Rig.due("something was done", m.floating(0, 3), -1);
        Rig.due("something was locked", m.control(0, 928), 0x80);
        int size = m.start();
        Rig.due("the tree", size, 1716);
        for (int h = 0; h < 2; h++) {
            for (int r = 0; r < 32; r++) {
                Rig.due("register", m.register(h, r), r == 10 ? h : r == 11 ? Rig.BASE + 4186112 : 0);
                Rig.due("floating", m.floating(h, r), 0);
            }
            for (int k = 0; k < 4096; k++) {
                long want = k == 768 ? 10L << 32 : k == 256 ? 2L << 32 : k == 3860 ? h : k == 3073 ? m.time()
                        : k == 769 ? 1L << 63 | 0x14112D : 0;
                Rig.due("control " + k, m.control(h, k), want);
            }
            Rig.due("mode", m.mode(h), 3);
            Rig.due("counter", m.counter(h), Rig.BASE);
        }
        Rig.due("memory stays", m.word(Rig.DATA + 0x100), -1);
    }

    /** A program may run over its own words: each step reads what stands there then. */
    private static void ownWords() {
        Rig rig = new Rig(1);
        rig.words(Rig.BASE + 0x300, Rig.addi(6, 0, 55));
        rig.exec(new long[] {Rig.BASE + 128 + 12, Rig.BASE + 0x300}, Rig.load(4, 3, 2, 0), Rig.store(4, 3, 1, 0), Rig.NOP,
                Rig.addi(6, 0, 44));
        Rig.due("the word that was stored is run", rig.x(6), 55);
    }

    public static void main(String[] args) {
        newObjects();
        tape();
        loading();
        sectors();
        input();
        indexes();
        memory();
        runs();
        ends();
        starts();
        ownWords();
        Rig.finish("FaceTest");
    }
}
