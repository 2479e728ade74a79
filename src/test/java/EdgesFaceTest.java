import java.util.Arrays;

/** Promises 1 to 22, and what a call that throws changes (nothing): each sentence that names a boundary case. */
public final class EdgesFaceTest {
    private static final int STATE = Rig.STATE, ARGUMENT = Rig.ARGUMENT, INDEX = Rig.INDEX;
    private static final int BYTES = BoardMachine.BYTES, IMAGE = BoardMachine.IMAGE, SECTORS = BoardMachine.SECTORS,
            INPUT = BoardMachine.INPUT;
    private static final long BASE = Rig.BASE, BEHIND = BASE + 4194304, TREE = BASE + 4186112;

    /** All that can be seen of a machine, but for its tape, as one number. */
    private static long seen(BoardMachine m) {
        long v = m.code() * 31L + m.processors();
        for (int h = 0; h < m.processors(); h++) {
            v = v * 31 + m.counter(h);
            v = v * 31 + m.mode(h);
            for (int r = 0; r < 32; r++) {
                v = v * 31 + m.register(h, r);
                v = v * 31 + m.floating(h, r);
            }
            for (int k = 0; k < 4096; k++) {
                v = v * 31 + m.control(h, k);
            }
        }
        for (long at = BASE; at < BEHIND; at += 65536) {
            v = v * 31 + m.sum(at, at + 65536);
        }
        for (int i = 0; i < 1048576; i++) {
            v = v * 31 + m.disk(i);
        }
        v = v * 31 + m.sent();
        for (int k = 0; k < m.sent(); k++) {
            v = v * 31 + m.out(k);
        }
        v = v * 31 + m.waiting();
        v = v * 31 + m.changed();
        v = v * 31 + m.time();
        return v * 31 + m.breaches();
    }

    /** A machine of two processors in which something has been done, with a tape of 20 bytes. */
    private static BoardMachine busy() {
        Rig rig = new Rig(2);
        rig.feed(new byte[] {9, 8, 7});
        rig.machine.load(SECTORS, 3);
        rig.feed(new byte[] {1, 2, 3});
        rig.machine.load(INPUT, 0);
        rig.words(BASE, Rig.lui(1, 0x10000), Rig.store(1, 1, 1, 0), Rig.addi(2, 2, 7), Rig.WFI);
        rig.machine.start();
        rig.machine.run(23);
        rig.machine.feed(1, 2, 3, 4, 5);
        return rig.machine;
    }

    /** The call throws, nothing that is seen changes, and the tape has still its 20 bytes. */
    private static void refused(String what, int want, BoardMachine m, Rig.Call call) {
        long before = seen(m);
        Rig.throwing(what, want, call);
        Rig.due(what + " changes nothing", seen(m), before);
        Rig.due(what + " leaves the tape", m.feed(0, 0, 0, 0, 0), 40);
        m.end(20);
        Rig.due(what + " leaves its bytes", m.load(BYTES, BASE + 0x700), 20);
        Rig.due(what + " leaves its bytes as they were", m.word(BASE + 0x700), 0x0200000001000000L);
    }

    // Promise 1.

    private static void newObjects() {
        int[] told = {1, 2, 3, 4, 0, 5, -1, Integer.MIN_VALUE, Integer.MAX_VALUE};
        int[] want = {1, 2, 3, 4, 1, 1, 1, 1, 1};
        for (int i = 0; i < told.length; i++) {
            BoardMachine m = new BoardMachine(told[i]);
            Rig.due("processors of " + told[i], m.processors(), want[i]);
            Rig.throwing("one more than there are", INDEX, () -> m.counter(m.processors()));
            long fresh = seen(m);
            Rig.throwing("the tape is empty", ARGUMENT, () -> { m.end(1); return 0; });
            m.start();
            Rig.due("as start() leaves it", seen(m), fresh);
            for (int h = 0; h < m.processors(); h++) {
                Rig.due("the entry is 2^31", m.counter(h), BASE);
                Rig.due("register 10", m.register(h, 10), h);
                Rig.due("register 11", m.register(h, 11), TREE);
                Rig.due("mode", m.mode(h), 3);
            }
        }
    }

    // Promises 2 and 3.

    private static void tapes() {
        BoardMachine m = new BoardMachine(1);
        Rig.due("twenty", m.feed(0x81020384, 0, 0, 0, 0xF1F2F3F4), 20);
        Rig.due("forty", m.feed(0, 0, 0, 0, 0), 40);
        m.end(20);
        m.load(BYTES, BASE);
        Rig.due("the highest byte of a first", m.word(BASE), 0x84030281L);
        Rig.due("the lowest byte of e last", m.word(BASE + 12), 0xF4F3F2F100000000L);
        for (int i = 0; i < 3276; i++) {
            m.feed(i, i, i, i, i);
        }
        m.end(65516);
        Rig.due("just 65,536", m.feed(1, 2, 3, 4, 5), 65536);
        Rig.throwing("one more", STATE, () -> m.feed(1, 2, 3, 4, 5));
        m.end(65517);
        Rig.throwing("20 where 19 have room", STATE, () -> m.feed(1, 2, 3, 4, 5));
        Rig.throwing("its length stays", ARGUMENT, () -> { m.end(65518); return 0; });
        m.end(65517);
        m.end(0);
        Rig.throwing("cut to none", ARGUMENT, () -> { m.end(1); return 0; });
        m.end(0);
        Rig.due("from the beginning again", m.feed(0, 0, 0, 0, 0), 20);
        BoardMachine b = busy();
        refused("end(-1)", ARGUMENT, b, () -> { b.end(-1); return 0; });
        BoardMachine c = busy();
        refused("end(21)", ARGUMENT, c, () -> { c.end(21); return 0; });
        BoardMachine d = busy();
        refused("end of the least", ARGUMENT, d, () -> { d.end(Integer.MIN_VALUE); return 0; });
        BoardMachine e = busy();
        refused("end of the greatest", ARGUMENT, e, () -> { e.end(Integer.MAX_VALUE); return 0; });
    }

    /** A feed that throws changes nothing: the tape's bytes are what they were. */
    private static void fullTape() {
        BoardMachine m = busy();
        for (int i = 1; i < 3276; i++) {
            m.feed(i, i, i, i, i);
        }
        long before = seen(m);
        Rig.throwing("a full tape", STATE, () -> m.feed(-1, -1, -1, -1, -1));
        Rig.due("nothing is changed", seen(m), before);
        Rig.due("it had 65,520", m.load(BYTES, BASE), 65520);
        Rig.due("its last bytes", m.word(BASE + 65512), Long.reverseBytes(3275L << 32 | 3275));
    }

    // Promise 4.

    private static void loads() {
        int[] none = {-1, 4, Integer.MIN_VALUE, Integer.MAX_VALUE};
        for (int kind : none) {
            BoardMachine m = busy();
            refused("the kind " + kind, ARGUMENT, m, () -> m.load(kind, BASE));
        }
        BoardMachine both = busy();
        refused("no kind, and no such byte", ARGUMENT, both, () -> both.load(4, -1));
        BoardMachine empty = new BoardMachine(1);
        Rig.throwing("no kind of an empty tape", ARGUMENT, () -> empty.load(4, BASE));
        long[] beyond = {BASE - 1, BASE - 20, BEHIND - 19, BEHIND, 0, -1, -20, Long.MIN_VALUE, Long.MAX_VALUE, Long.MAX_VALUE - 5,
            1L << 32 | BASE, Long.MIN_VALUE | BASE};
        for (long a : beyond) {
            BoardMachine m = busy();
            refused("bytes at " + a, INDEX, m, () -> m.load(BYTES, a));
        }
        long[] noSector = {-1, 2048, Long.MIN_VALUE, Long.MAX_VALUE, 1L << 32, 1L << 55, 1L << 54 | 5};
        for (long s : noSector) {
            BoardMachine m = busy();
            refused("sectors at " + s, INDEX, m, () -> m.load(SECTORS, s));
        }
        for (long a : new long[] {BASE - 1, BEHIND, 0, -1, Long.MIN_VALUE, Long.MAX_VALUE}) {
            BoardMachine m = busy();
            m.end(1);
            Rig.throwing("one byte at " + a, INDEX, () -> m.load(BYTES, a));
            Rig.throwing("one byte at the sector " + a, INDEX, () -> m.load(SECTORS, a == 0 ? 2048 : a));
            Rig.due("the tape stays", m.load(BYTES, BEHIND - 1), 1);
        }
        BoardMachine m = busy();
        Rig.due("the last twenty bytes", m.load(BYTES, BEHIND - 20), 20);
        Rig.due("are there", m.word(BEHIND - 8), 0x0500000004000000L);
        BoardMachine n = busy();
        Rig.due("the first twenty bytes", n.load(BYTES, BASE), 20);
        for (long a : new long[] {0, -1, BASE, BEHIND, 2048, Long.MIN_VALUE, Long.MAX_VALUE}) {
            for (int kind : new int[] {BYTES, SECTORS, INPUT}) {
                Rig.due("an empty tape", empty.load(kind, a), 0);
            }
            Rig.due("an empty tape is no image", empty.load(IMAGE, a), 1);
        }
    }

    private static void sectors() {
        Rig rig = new Rig(1);
        BoardMachine m = rig.machine;
        byte[] ones = new byte[512];
        Arrays.fill(ones, (byte) 1);
        rig.feed(ones);
        Rig.due("the last sector, whole", m.load(SECTORS, 2047), 512);
        rig.feed(new byte[513]);
        Rig.throwing("one byte beyond the disk", INDEX, () -> m.load(SECTORS, 2047));
        Rig.due("the tape stays, nothing was put", m.disk(2047 * 512), 1);
        m.end(511);
        Rig.due("one byte less than a sector", m.load(SECTORS, 2047), 511);
        Rig.due("filled up with what was there", m.disk(1048575), 1);
        Rig.due("the byte before", m.disk(1048574), 0);
        rig.feed(new byte[] {5});
        Rig.due("one byte", m.load(SECTORS, 0), 1);
        Rig.due("it is there", m.disk(0), 5);
        Rig.due("changed() does not count it", m.changed(), 0);
        byte[] many = new byte[65536];
        Arrays.fill(many, (byte) -1);
        rig.feed(many);
        Rig.throwing("128 sectors where 127 have room", INDEX, () -> m.load(SECTORS, 1921));
        Rig.due("128 sectors", m.load(SECTORS, 1920), 65536);
        Rig.due("from 0 to 255", m.disk(1920 * 512), 255);
    }

    private static void inputs() {
        Rig rig = new Rig(1);
        BoardMachine m = rig.machine;
        rig.feed(new byte[65536]);
        Rig.due("all of it", m.load(INPUT, Long.MIN_VALUE), 65536);
        Rig.due("waiting", m.waiting(), 65536);
        rig.feed(new byte[] {1, 2});
        Rig.due("no room", m.load(INPUT, 0), 0);
        Rig.throwing("the tape is used up all the same", ARGUMENT, () -> { m.end(1); return 0; });
        rig.words(BASE, Rig.jal(0, 0));
        m.run(1);
        Rig.due("one came", m.waiting(), 65535);
        rig.feed(new byte[] {1, 2});
        Rig.due("room for one", m.load(INPUT, 0), 1);
        Rig.due("waiting", m.waiting(), 65536);
    }

    // Promise 5.

    private static void starts() {
        BoardMachine m = busy();
        long disk = m.disk(3 * 512), waiting = m.waiting(), sent = m.sent(), time = m.time();
        Rig.due("one waits", m.mode(0) & 4, 4);
        Rig.due("the tree", m.start(), 1716);
        for (int h = 0; h < 2; h++) {
            Rig.due("no one waits", m.mode(h), 3);
            Rig.due("counter", m.counter(h), BASE);
            Rig.due("register 1", m.register(h, 1), 0);
            Rig.due("counts", m.control(h, 2816) | m.control(h, 2818), 0);
        }
        Rig.due("the rest stays", m.disk(3 * 512) * 1000 + m.waiting() * 100 + m.sent() * 10 + m.time(),
                disk * 1000 + waiting * 100 + sent * 10 + time);
        Rig.due("memory stays", m.word(BASE) & 0xFFFFFFFFL, Rig.lui(1, 0x10000));
        Rig.due("the tape stays", m.feed(0, 0, 0, 0, 0), 40);
        // A locked region is gone, also for data that it covered but in part.
        Rig locked = new Rig(1);
        for (int config : new int[] {0x90, 0x88, 0x98, 0x10}) {
            locked.exec(new long[] {config, Rig.DATA + 0x404 >> 2, Rig.DATA + 0x400}, Rig.csrrw(0, 944, 2),
                    Rig.csrrw(0, 928, 1), Rig.ld(5, 3, 0));
            Rig.due("it binds before start()", locked.csr(834), config == 0x88 ? 1 : 5);
            locked.exec(new long[] {0, 0, Rig.DATA + 0x400}, Rig.ld(5, 3, 0), Rig.store(8, 5, 3, 0));
            Rig.due("it does not behind it", locked.csr(834), 0);
            Rig.due("both are run", locked.csr(2818), 34);
        }
        // The tree is laid down again where it was stored over.
        Rig rig = new Rig(1);
        long before = rig.machine.sum(TREE, TREE + 2000);
        byte[] fill = new byte[1452];
        Arrays.fill(fill, (byte) 0x55);
        rig.bytes(TREE, fill);
        rig.machine.start();
        Rig.due("the tree again", rig.machine.sum(TREE, TREE + 2000), before);
        // Parts 7 and 8 stay.
        rig.poke(Rig.TIMER, 4, 1);
        rig.poke(Rig.CONTROLLER + 40, 4, 5);
        rig.poke(Rig.SERIAL + 7, 1, 99);
        rig.poke(Rig.BLOCK + 112, 4, 7);
        rig.machine.start();
        Rig.due("SOFT stays", rig.csr(836), 8);
        Rig.due("a priority stays", rig.peek(Rig.CONTROLLER + 40, 4), 5);
        Rig.due("register 7 of the serial line stays", rig.peek(Rig.SERIAL + 7, 1), 99);
        Rig.due("the state of the disk stays", rig.peek(Rig.BLOCK + 112, 4), 7);
    }

    // Promises 6 and 7.

    private static void runs() {
        for (int rounds : new int[] {-1, 10001, Integer.MIN_VALUE, Integer.MAX_VALUE}) {
            BoardMachine m = busy();
            refused("run(" + rounds + ")", ARGUMENT, m, () -> m.run(rounds));
        }
        BoardMachine m = busy();
        long before = seen(m);
        Rig.due("no round", m.run(0), 0);
        Rig.due("changes nothing", seen(m), before);
        Rig.due("10,000 rounds", m.run(10000), 10000);
        Rig.due("the code of one that has not ended", m.code(), BoardMachine.NONE);
        Rig rig = new Rig(1);
        rig.words(BASE, Rig.lui(1, 0x100), Rig.lui(2, 0x00073), Rig.addi(2, 2, 0x333), Rig.store(4, 2, 1, 0), Rig.NOP);
        rig.machine.start();
        Rig.due("up to just before the end", rig.machine.run(3), 3);
        Rig.due("it has not ended", rig.machine.code(), -1);
        Rig.due("the round in which it ends counts", rig.machine.run(10000), 1);
        Rig.due("its code", rig.machine.code(), 7);
        long ended = seen(rig.machine);
        Rig.due("no round behind it", rig.machine.run(10000), 0);
        Rig.due("nothing changes", seen(rig.machine), ended);
        Rig.throwing("still too many", ARGUMENT, () -> rig.machine.run(10001));
        rig.machine.start();
        Rig.due("start() undoes it", rig.machine.code(), -1);
        Rig.due("just up to the end", rig.machine.run(4), 4);
        Rig.due("its code again", rig.machine.code(), 7);
    }

    // Promises 9 to 13.

    private static void processors() {
        int[] noProcessor = {-1, 2, 4, Integer.MIN_VALUE, Integer.MAX_VALUE};
        for (int p : noProcessor) {
            BoardMachine m = busy();
            refused("counter(" + p + ")", INDEX, m, () -> m.counter(p));
            BoardMachine n = busy();
            refused("mode(" + p + ")", INDEX, n, () -> n.mode(p));
            BoardMachine o = busy();
            refused("control(" + p + ")", INDEX, o, () -> o.control(p, 768));
            BoardMachine q = busy();
            refused("register(" + p + ")", INDEX, q, () -> q.register(p, 1));
            BoardMachine s = busy();
            refused("floating(" + p + ")", INDEX, s, () -> s.floating(p, 1));
        }
        for (int r : new int[] {-1, 32, Integer.MIN_VALUE, Integer.MAX_VALUE}) {
            BoardMachine m = busy();
            refused("register " + r, INDEX, m, () -> m.register(1, r));
            BoardMachine n = busy();
            refused("floating " + r, INDEX, n, () -> n.floating(1, r));
        }
        BoardMachine m = busy();
        Rig.due("the last register", m.register(1, 31) + m.floating(1, 31), 0);
        for (int k : new int[] {-1, 4096, Integer.MIN_VALUE, Integer.MAX_VALUE, 0, 4, 4095, 2817, 1952}) {
            Rig.due("there is no control register " + k, m.control(1, k), 0);
        }
        Rig.due("4 more if it is WAITING", m.mode(0), 7);
    }

    /** "whatever the mode (those ELSEWHERE, too)". */
    private static void controls() {
        Stage s = new Stage().inMode(0).withStatus(1 << 20).withControl(3, 0xFF).withoutFloats().withControl(384, 5)
                .withControl(951, -1).withControl(928, 0x1FL << 56).run(Rig.NOP);
        Rig.due("mode", s.machine.mode(0), 0);
        Rig.due("the flags, with FS 0", s.control(1), 31);
        Rig.due("the mode of part 3", s.control(2), 7);
        Rig.due("both", s.control(3), 255);
        Rig.due("the table", s.control(384), 5);
        Rig.due("configs", s.control(928), 0x1FL << 56);
        Rig.due("a number", s.control(951), (1L << 54) - 1);
        Rig.due("930 and 952", s.control(930) | s.control(952), 0);
        Rig.due("CYCLES", s.control(3072), s.control(2816));
        Rig.due("TIME", s.control(3073), s.machine.time());
        Rig.due("INSTRUCTIONS", s.control(3074), s.control(2818));
        Rig.due("769", s.control(769), 1L << 63 | 0x14112D);
    }

    // Promises 14 and 15.

    private static void words() {
        for (long a : new long[] {BASE - 1, BASE - 7, BASE - 8, BEHIND - 7, BEHIND - 1, BEHIND, 0, -1, -8, Long.MIN_VALUE,
            Long.MAX_VALUE, 1L << 32 | BASE}) {
            BoardMachine m = busy();
            refused("word(" + a + ")", INDEX, m, () -> m.word(a));
        }
        Rig rig = new Rig(1);
        rig.longs(BEHIND - 16, 0x0807060504030201L, 0x100F0E0D0C0B0A09L);
        Rig.due("the last word", rig.machine.word(BEHIND - 8), 0x100F0E0D0C0B0A09L);
        Rig.due("one that 8 does not divide", rig.machine.word(BEHIND - 15), 0x0908070605040302L);
        Rig.due("the first word", rig.machine.word(BASE), 0);
    }

    private static void sums() {
        long[][] notThere = {{BASE - 1, BASE}, {BASE - 1, BASE + 1}, {BEHIND - 1, BEHIND + 1}, {BEHIND, BEHIND + 1}, {0, 1},
            {0, 65536}, {-1, 0}, {-65536, 0}, {Long.MIN_VALUE, Long.MIN_VALUE + 1}, {Long.MAX_VALUE - 1, Long.MAX_VALUE}};
        for (long[] a : notThere) {
            BoardMachine m = busy();
            refused("sum(" + a[0] + ", " + a[1] + ")", INDEX, m, () -> m.sum(a[0], a[1]));
        }
        long[][] wrong = {{BASE, BASE - 1}, {BASE, BASE + 65537}, {0, 65537}, {1, 0}, {BEHIND, BASE}, {Long.MIN_VALUE, Long.MAX_VALUE},
            {Long.MAX_VALUE, Long.MIN_VALUE}, {BASE, Long.MAX_VALUE}, {BASE, Long.MIN_VALUE}, {-65537, 0}};
        for (long[] a : wrong) {
            BoardMachine m = busy();
            refused("sum(" + a[0] + ", " + a[1] + ")", ARGUMENT, m, () -> m.sum(a[0], a[1]));
        }
        BoardMachine m = busy();
        for (long a : new long[] {0, -1, BASE, BEHIND, Long.MIN_VALUE, Long.MAX_VALUE}) {
            Rig.due("none, at " + a, m.sum(a, a), 0);
        }
        Rig rig = new Rig(1);
        rig.bytes(BEHIND - 3, (byte) 1, (byte) 2, (byte) -1);
        Rig.due("a byte is 0 .. 255", rig.machine.sum(BEHIND - 1, BEHIND), 255);
        Rig.due("times 31 to the power", rig.machine.sum(BEHIND - 3, BEHIND), 961 + 62 + 255);
        byte[] many = new byte[65536];
        Arrays.fill(many, (byte) -1);
        rig.bytes(BEHIND - 65536, many);
        long sum = 0;
        for (int i = 0; i < 65536; i++) {
            sum = sum * 31 + 255;
        }
        Rig.due("65,536, going round", rig.machine.sum(BEHIND - 65536, BEHIND), sum);
    }

    // Promise 16.

    private static void disks() {
        for (int place : new int[] {-1, 1048576, Integer.MIN_VALUE, Integer.MAX_VALUE}) {
            BoardMachine m = busy();
            refused("disk(" + place + ")", INDEX, m, () -> m.disk(place));
        }
        BoardMachine m = busy();
        Rig.due("the first byte", m.disk(0), 0);
        Rig.due("the last byte", m.disk(1048575), 0);
        Rig.due("one that was loaded", m.disk(3 * 512 + 2), 7);
    }

    /** Promise 22: whatever programs do, there is none; what is not let through is not stored. */
    private static void breaches() {
        Stage s = new Stage().inMode(0).withControl(944, BASE >> 2 | 0x1FFFF).withControl(928, 0x1D).with(1, Stage.DATA).with(2, 5)
                .run(Rig.store(8, 2, 1, 0));
        s.due("a store without W", 7, Stage.DATA);
        Rig.due("nothing is stored", s.machine.word(Stage.DATA), 0);
        s = new Stage().withControl(944, Stage.DATA >> 2).withControl(928, 0x18).with(1, Stage.DATA).with(2, 5)
                .run(Rig.store(8, 2, 1, 0));
        s.fine("a store of the machine, without W, is none", 4);
        Rig.due("it is stored", s.machine.word(Stage.DATA), 5);
        Rig.due("a new machine has none", new BoardMachine(4).breaches(), 0);
    }

    public static void main(String[] args) {
        newObjects();
        tapes();
        fullTape();
        loads();
        sectors();
        inputs();
        starts();
        runs();
        processors();
        controls();
        words();
        sums();
        disks();
        breaches();
        Rig.finish("EdgesFaceTest");
    }
}
