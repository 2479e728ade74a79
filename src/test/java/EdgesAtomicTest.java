/** Part 6: each sentence that names a boundary case, with what it asks for. */
public final class EdgesAtomicTest {
    private static final long MIN = Long.MIN_VALUE, MAX = Long.MAX_VALUE, DATA = Stage.DATA, PAGE = Stage.PAGE;

    private static void does(String what, int sort, int n, long there, long with, long want, long answer) {
        Stage s = new Stage().memory(DATA, there).with(1, DATA).with(2, with).run(Rig.amo(sort, n, 3, 1, 2));
        s.gives(what + " answers", 3, answer);
        Rig.due(what, s.machine.word(DATA), want);
    }

    // "Of the operand the lowest bytes count, as many as the size has. All wraps."

    private static void operations() {
        does("added, wrapping", 0, 8, MAX, 1, MIN, MAX);
        does("added, wrapping, by four", 0, 4, 0x5_7FFFFFFFL, 1, 0x5_80000000L, Integer.MAX_VALUE);
        does("a carry stays within four", 0, 4, 0x5_FFFFFFFFL, 1, 0x5_00000000L, -1);
        does("upper bits of the operand", 1, 4, -1, 0x7_00000001L, 0xFFFFFFFF_00000001L, -1);
        does("with sign", 1, 4, 0x80000000L, 0, 0, Integer.MIN_VALUE);
        does("exclusive-or'd", 4, 4, -1, 0x7_FFFFFFFFL, 0xFFFFFFFF_00000000L, -1);
        does("or'd", 8, 8, MIN, 1, MIN + 1, MIN);
        does("and'd", 12, 8, -1, 0, 0, -1);
        does("the less", 16, 8, MIN, MAX, MIN, MIN);
        does("the less of ints", 16, 4, 0x80000000L, 0x7FFFFFFFL, 0x80000000L, Integer.MIN_VALUE);
        does("the less of ints, upper bits do not count", 16, 4, 5, 0x7_00000004L, 4, 5);
        does("the greater", 20, 8, MIN, MAX, MAX, MIN);
        does("the greater of ints", 20, 4, 0x80000000L, 0x7FFFFFFFL, 0x7FFFFFFFL, Integer.MIN_VALUE);
        does("the less without sign", 24, 8, MIN, MAX, MAX, MIN);
        does("the less without sign, -1", 24, 8, -1, 0, 0, -1);
        does("the less of ints without sign", 24, 4, 0x80000000L, 0x7FFFFFFFL, 0x7FFFFFFFL, Integer.MIN_VALUE);
        does("the greater without sign", 28, 8, MIN, MAX, MIN, MIN);
        does("the greater of ints without sign", 28, 4, 1, 0xFFFFFFFFL, 0xFFFFFFFFL, 1);
        does("as great", 20, 8, 7, 7, 7, 7);
        Stage s = new Stage().memory(DATA, 40).with(1, DATA).run(Rig.amo(0, 8, 1, 1, 1));
        Rig.due("d, a and b are one: the answer", s.x(1), 40);
        Rig.due("d, a and b are one: memory", s.machine.word(DATA), 40 + DATA);
        s = new Stage().memory(DATA, -1).with(1, DATA + 4).with(2, 5).run(Rig.amo(1, 4, 3, 1, 2));
        Rig.due("the upper four", s.machine.word(DATA), 0x5_FFFFFFFFL);
    }

    /** To reserve at DATA, some words, and a conditional store of 99 there; answers what that answered. */
    private static Stage between(int n, int... words) {
        int[] all = new int[words.length + 2];
        all[0] = Rig.amo(2, n, 10, 1, 0);
        System.arraycopy(words, 0, all, 1, words.length);
        all[words.length + 1] = Rig.amo(3, n, 11, 1, 2);
        Stage s = new Stage().memory(DATA - 8, 61, 62, 63).with(1, DATA).with(2, 99).with(3, DATA - 8).with(4, DATA + 8)
                .with(5, DATA + 4).run(all);
        Rig.due("62 was reserved", s.x(10), 62);
        Rig.due("no breach", s.machine.breaches(), 0);
        return s;
    }

    private static void kept(String what, int n, int... words) {
        Stage s = between(n, words);
        Rig.due(what + ": it succeeds", s.x(11), 0);
        Rig.due(what + ": it is stored", s.machine.word(DATA), 99);
    }

    private static void lost(String what, int n, int... words) {
        Stage s = between(n, words);
        Rig.due(what + ": it fails", s.x(11), 1);
        Rig.due(what + ": nothing is stored", s.machine.word(DATA) != 99);
    }

    // "It is LOST when something is stored into one of the eight bytes that it lies in".

    private static void lostOrNot() {
        kept("nothing between", 8);
        kept("nothing between, four", 4);
        kept("a load", 8, Rig.ld(12, 1, 0));
        kept("a store just before", 8, Rig.store(1, 0, 3, 7));
        kept("a store just behind", 8, Rig.store(1, 0, 4, 0));
        kept("a store of eight just before", 8, Rig.store(8, 0, 3, 0));
        for (int i = 0; i < 8; i++) {
            lost("a store into byte " + i, 8, Rig.store(1, 0, 1, i));
            lost("a store into byte " + i + ", four being reserved", 4, Rig.store(1, 0, 1, i));
        }
        lost("a store that reaches in", 8, Rig.store(2, 0, 3, 7));
        lost("a store that reaches out", 8, Rig.store(8, 0, 1, 7));
        lost("the same stored, whatever was there before", 8, Rig.store(8, 10, 1, 0));
        lost("an atomic operation", 8, Rig.amo(8, 8, 0, 1, 0));
        lost("an atomic operation beside it", 4, Rig.amo(8, 4, 0, 5, 0));
        lost("reserving anew elsewhere", 8, Rig.amo(2, 8, 0, 4, 0));
        lost("reserving anew with another size", 8, Rig.amo(2, 4, 0, 1, 0));
        kept("reserving anew the same", 8, Rig.amo(2, 8, 0, 1, 0));
        lost("a conditional store elsewhere", 8, Rig.amo(3, 8, 12, 4, 2));
        lost("a conditional store of another size", 8, Rig.amo(3, 4, 12, 5, 0));
        lost("one of the upper four", 4, Rig.amo(3, 4, 12, 5, 0));
        Stage s = between(8, Rig.amo(3, 8, 12, 1, 2));
        Rig.due("the first conditional store", s.x(12), 0);
        Rig.due("the second one", s.x(11), 1);
        s = new Stage().memory(DATA, 62).with(1, DATA).with(2, 99).run(Rig.amo(3, 8, 11, 1, 2));
        Rig.due("at first no one has any", s.x(11), 1);
        Rig.due("nothing is stored", s.machine.word(DATA), 62);
        s = new Stage().with(1, 0).run(Rig.amo(3, 8, 11, 1, 2));
        s.due("a conditional store at 0, though no one has any", 7, 0);
    }

    /** "if the processor has a reservation with just this address and size". */
    private static void justThis() {
        Stage s = new Stage().with(1, DATA).with(2, 99).with(5, DATA + 4).run(Rig.amo(2, 8, 0, 1, 0), Rig.amo(3, 4, 11, 1, 2));
        Rig.due("eight reserved, four stored", s.x(11), 1);
        s = new Stage().with(1, DATA).with(2, 99).run(Rig.amo(2, 4, 0, 1, 0), Rig.amo(3, 8, 11, 1, 2));
        Rig.due("four reserved, eight stored", s.x(11), 1);
        s = new Stage().with(1, DATA).with(2, 99).with(5, DATA + 4).run(Rig.amo(2, 4, 0, 1, 0), Rig.amo(3, 4, 11, 5, 2));
        Rig.due("the lower four reserved, the upper stored", s.x(11), 1);
        s = new Stage().with(2, -1).with(5, DATA + 4).run(Rig.amo(2, 4, 0, 5, 0), Rig.amo(3, 4, 11, 5, 2));
        Rig.due("the upper four", s.x(11), 0);
        Rig.due("alone are stored", s.machine.word(DATA), -1L << 32);
        s = new Stage().memory(DATA, 0x80000000L).with(1, DATA).run(Rig.amo(2, 4, 3, 1, 0));
        Rig.due("four that are reserved, with sign", s.x(3), Integer.MIN_VALUE);
        // The physical address counts: one page by two addresses.
        s = new Stage().tables(1).page(PAGE + 0x1000, Stage.entry(DATA, 0xCF)).with(1, PAGE).with(2, 99).with(5, PAGE + 0x1000)
                .run(Rig.amo(2, 8, 0, 1, 0), Rig.amo(3, 8, 11, 5, 2));
        Rig.due("by another address", s.x(11), 0);
        Rig.due("it is stored", s.machine.word(DATA), 99);
    }

    /** A trap leaves a reservation; so does what faults. */
    private static void faults() {
        int misplaced = Rig.amo(3, 8, 12, 6, 2);
        Stage s = new Stage().withControl(773, Stage.CODE + 8).memory(DATA, 62).with(1, DATA).with(2, 99).with(6, DATA + 1)
                .run(Rig.amo(2, 8, 10, 1, 0), misplaced, Rig.amo(3, 8, 11, 1, 2));
        Rig.due("a conditional store that is misplaced", s.control(834), 6);
        Rig.due("leaves it", s.x(11), 0);
        s = new Stage().withControl(773, Stage.CODE + 8).memory(DATA, 62).with(1, DATA).with(2, 99).with(6, 0)
                .run(Rig.amo(2, 8, 10, 1, 0), misplaced, Rig.amo(3, 8, 11, 1, 2));
        Rig.due("a conditional store that is not in memory", s.control(834), 7);
        Rig.due("leaves it", s.x(11), 0);
        s = new Stage().withControl(773, Stage.CODE + 8).memory(DATA, 62).with(1, DATA).with(2, 99).with(6, 0)
                .run(Rig.amo(2, 8, 10, 1, 0), Rig.amo(2, 8, 12, 6, 0), Rig.amo(3, 8, 11, 1, 2));
        Rig.due("to reserve what is not in memory", s.control(834), 5);
        Rig.due("leaves it", s.x(11), 0);
        s = new Stage().withControl(773, Stage.CODE + 8).memory(DATA, 62).with(1, DATA).with(2, 99).with(6, DATA + 0x100)
                .withControl(944, DATA + 0x100 >> 2).withControl(928, 0x99)
                .run(Rig.amo(2, 8, 10, 1, 0), Rig.store(8, 2, 6, 0), Rig.amo(3, 8, 11, 1, 2));
        Rig.due("a store that is not let through", s.control(834), 7);
        Rig.due("leaves it", s.x(11), 0);
    }

    /** By marks in a table, by another processor, by the disk, by load(). */
    private static void byOthers() {
        long leaf = Stage.leaf(PAGE);
        Stage s = new Stage().tables(1).page(PAGE, Stage.entry(DATA, 0x0F)).with(1, leaf).with(2, 99).with(5, PAGE)
                .run(Rig.amo(2, 8, 10, 1, 0), Rig.ld(6, 5, 0), Rig.amo(3, 8, 11, 1, 2));
        Rig.due("marks", s.x(11), 1);
        Rig.due("they stay", s.machine.word(leaf), Stage.entry(DATA, 0x4F));
        s = new Stage().tables(1).page(PAGE, Stage.entry(DATA, 0x4F)).with(1, leaf).with(2, 99).with(5, PAGE)
                .run(Rig.amo(2, 8, 10, 1, 0), Rig.ld(6, 5, 0), Rig.amo(3, 8, 11, 1, 2));
        Rig.due("no mark, as it is there", s.x(11), 0);
        // The conditional store's own mark comes before it is done.
        s = new Stage().tables(1).page(PAGE, Stage.entry(Stage.TABLES + 0x2000, 0x4F)).with(1, PAGE + (leaf & 4095)).with(2, 99)
                .run(Rig.amo(2, 8, 10, 1, 0), Rig.amo(3, 8, 11, 1, 2));
        Rig.due("its own mark", s.x(11), 1);
        for (int how = 0; how < 3; how++) {
            s = new Stage().memory(DATA, 62).with(1, DATA).with(2, 99).words(Stage.CODE + 4, Rig.amo(3, 8, 11, 1, 2))
                    .run(Rig.amo(2, 8, 10, 1, 0));
            if (how == 0) {
                s.rig.bytes(DATA + 7, (byte) 0);
            } else if (how == 1) {
                s.rig.bytes(DATA + 8, (byte) 0);
            } else {
                s.rig.bytes(DATA - 1, (byte) 0);
            }
            s.more(1);
            Rig.due("load() of " + how, s.x(11), how == 0 ? 1 : 0);
        }
        otherProcessor(0, 1);
        otherProcessor(8, 0);
        otherProcessor(-1, 0);
        otherProcessor(7, 1);
    }

    /** In round 5 processor 0 reserves and then processor 1 stores a byte; in round 7 processor 0 stores if it may. */
    private static void otherProcessor(int offset, long want) {
        Rig rig = new Rig(2);
        rig.words(Rig.BASE, Rig.auipc(1, 8), Rig.branch(1, 10, 0, 24), Rig.NOP, Rig.NOP, Rig.amo(2, 8, 4, 1, 0), Rig.NOP,
                Rig.amo(3, 8, 5, 1, 11), Rig.NOP, Rig.NOP, Rig.store(1, 0, 1, offset), Rig.NOP);
        rig.machine.start();
        rig.machine.run(8);
        Rig.due("a store of another one at " + offset, rig.machine.register(0, 5), want);
        Rig.due("no breach", rig.machine.breaches(), 0);
    }

    /** Two processors each have one of their own, of the same bytes: the first conditional store undoes the other. */
    private static void twoReserve() {
        Rig rig = new Rig(2);
        rig.words(Rig.BASE, Rig.auipc(1, 8), Rig.amo(2, 8, 4, 1, 0), Rig.amo(3, 8, 5, 1, 11), Rig.NOP);
        rig.machine.start();
        rig.machine.run(3);
        Rig.due("the first one succeeds", rig.machine.register(0, 5), 0);
        Rig.due("the other one does not", rig.machine.register(1, 5), 1);
    }

    /** start(): "no reservation", of any processor; without it each one's own succeeds. */
    private static void startUndoes() {
        for (int way = 0; way < 2; way++) {
            Rig rig = new Rig(4);
            int own = Rig.r(51, 1, 0, 1, 2, 0), shift = Rig.i(19, 2, 1, 10, 4);
            rig.words(Rig.BASE, Rig.auipc(1, 8), shift, own, Rig.amo(2, 8, 4, 1, 0), Rig.amo(3, 8, 5, 1, 11));
            rig.machine.start();
            rig.machine.run(4);
            if (way == 1) {
                rig.words(Rig.BASE + 12, Rig.NOP);
                rig.machine.start();
                rig.machine.run(4);
            }
            rig.machine.run(1);
            for (int h = 0; h < 4; h++) {
                Rig.due("processor " + h + (way == 1 ? " behind start()" : ""), rig.machine.register(h, 5), way);
                Rig.due("what is stored", rig.machine.word(Rig.BASE + 0x8000 + 16 * h), way == 1 ? 0 : Rig.BASE + 4186112);
            }
            Rig.due("no breach", rig.machine.breaches(), 0);
        }
    }

    public static void main(String[] args) {
        startUndoes();
        operations();
        lostOrNot();
        justThis();
        faults();
        byOthers();
        twoReserve();
        Rig.finish("EdgesAtomicTest");
    }
}
