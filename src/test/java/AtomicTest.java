import java.util.Random;

/** Part 6: atomic operations and reservations, of one processor and of several. */
public final class AtomicTest {
    private static final Rig rig = new Rig(1);
    private static final Random random = new Random(3);
    private static final long AT = Rig.DATA + 0x400;
    private static final int[] SORTS = {0, 1, 4, 8, 12, 16, 20, 24, 28};

    private static long expected(int sort, long there, long with, boolean ints) {
        switch (sort) {
            case 0: return there + with;
            case 1: return with;
            case 4: return there ^ with;
            case 8: return there | with;
            case 12: return there & with;
            case 16: return Math.min(there, with);
            case 20: return Math.max(there, with);
            case 24: return Long.compareUnsigned(there, with) < 0 ? there : with;
            default: return Long.compareUnsigned(there, with) < 0 ? with : there;
        }
    }

    private static void operations() {
        for (int sort : SORTS) {
            for (int i = 0; i < 100; i++) {
                long there = random.nextInt(4) == 0 ? 0x80000000_7FFFFFFFL : random.nextLong() >> random.nextInt(64);
                long with = random.nextInt(4) == 0 ? there : random.nextLong() >> random.nextInt(64);
                rig.longs(AT, there);
                rig.exec(new long[] {AT, with}, Rig.amo(sort, 8, 3, 1, 2) | random.nextInt(4) << 25);
                Rig.due("atomic " + sort + " answers", rig.x(3), there);
                Rig.due("atomic " + sort + " of " + there + ", " + with, rig.machine.word(AT), expected(sort, there, with, false));
                rig.longs(AT, there);
                int half = random.nextInt(2) * 4;
                int part = (int) (there >>> 8 * half);
                rig.exec(new long[] {AT + half, with}, Rig.amo(sort, 4, 3, 1, 2));
                Rig.due("atomic " + sort + " of ints answers", rig.x(3), part);
                long want = expected(sort, part, (int) with, true) & 0xFFFFFFFFL;
                Rig.due("atomic " + sort + " of ints", rig.machine.word(AT),
                        half == 0 ? there & ~0xFFFFFFFFL | want : there & 0xFFFFFFFFL | want << 32);
            }
        }
        rig.longs(AT, 40);
        rig.exec(new long[] {AT, 2}, Rig.amo(0, 8, 2, 1, 2));
        Rig.due("the operand's register gets the answer", rig.x(2), 40);
        Rig.due("sum", rig.machine.word(AT), 42);
    }

    private static void illegal() {
        for (int sort = 0; sort < 32; sort++) {
            boolean there = sort == 2 || sort == 3;
            for (int s : SORTS) {
                there |= s == sort;
            }
            for (int f = 0; f < 8; f++) {
                int w = Rig.r(47, 3, f, 1, sort == 2 ? 0 : 2, sort << 2);
                rig.exec(new long[] {AT, 0}, w);
                Rig.due("sort " + sort + " f " + f, rig.csr(834), there && (f == 2 || f == 3) ? 0 : 2);
            }
        }
        rig.exec(new long[] {AT, 0}, Rig.amo(2, 8, 3, 1, 2));
        Rig.due("to reserve with b", rig.csr(834), 2);
    }

    private static void faults() {
        for (int n : new int[] {4, 8}) {
            for (int sort : new int[] {0, 1, 2, 3, 28}) {
                int b = sort == 2 ? 0 : 2;
                for (int off = 1; off < n; off++) {
                    rig.exec(new long[] {AT + off, 5}, Rig.amo(sort, n, 3, 1, b));
                    Rig.due("misplaced " + sort, rig.csr(834), sort == 2 ? 4 : 6);
                    Rig.due("its value", rig.csr(835), AT + off);
                }
                for (long at : new long[] {0, Rig.BASE - 8, Rig.BASE + 4194304, Rig.TIMER + 16384, Rig.CONTROLLER, -8}) {
                    rig.exec(new long[] {at, 5}, Rig.amo(sort, n, 3, 1, b));
                    Rig.due("not in memory " + sort, rig.csr(834), sort == 2 ? 5 : 7);
                    Rig.due("its value", rig.csr(835), at);
                }
            }
        }
        rig.exec(new long[] {1, 5}, Rig.amo(0, 8, 3, 1, 2));
        Rig.due("misplaced and not in memory", rig.csr(834), 6);
    }

    /** Reserves, does some words, and stores if it may; answers what the latter answered. */
    private static long between(long[] registers, int size, int... words) {
        int[] all = new int[words.length + 2];
        all[0] = Rig.amo(2, size, 10, 1, 0);
        System.arraycopy(words, 0, all, 1, words.length);
        all[words.length + 1] = Rig.amo(3, size, 11, 1, 2);
        rig.longs(AT - 8, 71, 72, 73);
        rig.exec(registers, all);
        Rig.due("reserving answers", rig.x(10), size == 8 ? 72 : 72);
        Rig.due("what is there", rig.machine.word(AT), rig.x(11) == 0 ? 99 : rig.machine.word(AT));
        Rig.due("no breach", rig.machine.breaches(), 0);
        return rig.x(11);
    }

    private static void reservations() {
        long[] registers = {AT, 99, AT + 8, AT - 8, AT + 4};
        Rig.due("nothing between", between(registers, 8, Rig.NOP), 0);
        Rig.due("nothing between ints", between(registers, 4, Rig.NOP), 0);
        Rig.due("loads between", between(registers, 8, Rig.ld(12, 1, 0), Rig.ld(12, 3, 0)), 0);
        Rig.due("stores beside it", between(registers, 8, Rig.store(8, 2, 3, 0), Rig.store(8, 2, 4, 0)), 0);
        for (int off = 0; off < 8; off++) {
            Rig.due("a byte stored into it", between(registers, 8, Rig.store(1, 2, 1, off)), 1);
            Rig.due("a byte stored beside four of its eight", between(registers, 4, Rig.store(1, 2, 1, off)), 1);
        }
        Rig.due("the same stored", between(registers, 8, Rig.ld(12, 1, 0), Rig.store(8, 12, 1, 0)), 1);
        Rig.due("one that reaches into it", between(registers, 8, Rig.store(8, 2, 4, 1)), 1);
        Rig.due("one that begins in it", between(registers, 8, Rig.store(8, 2, 1, 7)), 1);
        Rig.due("an atomic operation on it", between(registers, 4, Rig.amo(8, 4, 0, 5, 0)), 1);
        Rig.due("reserving anew elsewhere", between(registers, 8, Rig.amo(2, 8, 0, 3, 0)), 1);
        Rig.due("reserving anew the same", between(registers, 8, Rig.amo(2, 8, 0, 1, 0)), 0);
        Rig.due("reserving with another size", between(registers, 8, Rig.amo(2, 4, 0, 1, 0)), 1);
        Rig.due("a conditional store elsewhere", between(registers, 8, Rig.amo(3, 8, 12, 3, 2)), 1);
        Rig.due("which fails", rig.x(12), 1);
        Rig.due("and stores nothing", rig.machine.word(AT + 8), 73);
        Rig.due("a second conditional store", between(registers, 8, Rig.amo(3, 8, 12, 1, 2)), 1);
        Rig.due("the first one", rig.x(12), 0);
        Rig.due("a conditional store that faults leaves it", between(registers, 8, Rig.NOP), 0);
        rig.exec(new long[] {AT, 99}, Rig.amo(3, 8, 11, 1, 2));
        Rig.due("without any", rig.x(11), 1);
        rig.exec(new long[] {AT, 99}, Rig.amo(2, 8, 11, 1, 0));
        rig.bytes(AT + 7, (byte) 1);
        // The program stands where the counter is: the conditional store comes next.
        rig.words(Rig.BASE + 132, Rig.amo(3, 8, 11, 1, 2));
        rig.machine.run(1);
        Rig.due("load() undoes it", rig.x(11), 1);
        rig.exec(new long[] {AT, 99}, Rig.amo(2, 8, 11, 1, 0));
        rig.words(Rig.BASE + 132, Rig.amo(3, 8, 11, 1, 2));
        rig.machine.run(1);
        Rig.due("load() elsewhere does not", rig.x(11), 0);
    }

    private static void start() {
        rig.words(Rig.BASE, Rig.auipc(1, 0x10), Rig.branch(1, 30, 0, 8), Rig.amo(2, 8, 3, 1, 0), Rig.NOP);
        rig.machine.start();
        rig.machine.run(3);
        rig.words(Rig.BASE, Rig.auipc(1, 0x10), Rig.addi(2, 0, 5), Rig.amo(3, 8, 3, 1, 2));
        rig.machine.start();
        rig.machine.run(3);
        Rig.due("no reservation behind start", rig.x(3), 1);
    }

    /** Marks in a table undo a reservation of the entry's bytes. */
    private static void marks() {
        long table = Rig.BASE + 0x20000;
        long entry = (Rig.BASE >> 12) << 10 | 0xF;
        rig.longs(table + 16, entry);
        long status = 1L << 17 | 1L << 11;
        long[] registers = {table + 16, 99, 0x1F, -1L, 8L << 60 | table >> 12, status, Rig.BASE + 0x10000};
        rig.exec(registers, Rig.csrrw(0, 928, 3), Rig.csrrw(0, 944, 4), Rig.csrrw(0, 384, 5), Rig.amo(2, 8, 10, 1, 0),
                Rig.csrrw(0, 768, 6), Rig.ld(12, 7, 0), Rig.csrrw(0, 768, 0), Rig.amo(3, 8, 11, 1, 2));
        Rig.due("marks undo it", rig.x(11), 1);
        Rig.due("they stand there", rig.machine.word(table + 16), entry | 64);
        rig.exec(registers, Rig.csrrw(0, 928, 3), Rig.csrrw(0, 944, 4), Rig.csrrw(0, 384, 5), Rig.amo(2, 8, 10, 1, 0),
                Rig.csrrw(0, 768, 6), Rig.ld(12, 7, 0), Rig.csrrw(0, 768, 0), Rig.amo(3, 8, 11, 1, 2));
        Rig.due("none are put that are there", rig.x(11), 0);
    }

    /** Two processors count together; each way alone must not lose one. */
    private static void together() {
        Rig two = new Rig(4);
        int loop = 20;
        two.words(Rig.BASE, Rig.auipc(1, 0x10), Rig.addi(2, 0, loop), Rig.addi(4, 0, 1),
                Rig.amo(0, 8, 0, 1, 4),
                Rig.amo(2, 8, 5, 1, 0) | 0, Rig.addi(5, 5, 1), Rig.amo(3, 8, 6, 1, 5), Rig.branch(1, 6, 0, -12),
                Rig.addi(2, 2, -1), Rig.branch(1, 2, 0, -24), Rig.jal(0, 0));
        two.machine.start();
        two.machine.run(8000);
        Rig.due("counted by four", two.machine.word(Rig.BASE + 0x10000), 4 * 2 * loop);
        Rig.due("no breach", two.machine.breaches(), 0);
        for (int p = 0; p < 4; p++) {
            Rig.due("ended", two.machine.counter(p), Rig.BASE + 40);
        }
    }

    public static void main(String[] args) {
        operations();
        illegal();
        faults();
        reservations();
        start();
        marks();
        together();
        Rig.finish("AtomicTest");
    }
}
