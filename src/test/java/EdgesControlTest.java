/** Part 4: each sentence that names a boundary case, with what it asks for. */
public final class EdgesControlTest {
    private static final long SIE = 2, MIE = 8, SPIE = 32, MPIE = 128, SPP = 256, MPRV = 1 << 17;
    private static final long TVM = 1 << 20, INTERRUPT = 1L << 63;
    private static final long SHOWN = 10L << 32, SEEN = 2L << 32;
    private static final long CODE = Stage.CODE, DATA = Stage.DATA;

    private static Stage written(int k, long v) {
        return new Stage().withoutFloats().with(1, v).run(Rig.csrrw(3, k, 1)).fine("a write to " + k, 4);
    }

    private static void keeps(int k, long v, long want) {
        Rig.due("register " + k + ", of " + Long.toHexString(v), written(k, v).control(k), want);
    }

    private static void illegal(String what, Stage s, int w) {
        s.run(w).due(what, 2, w & 0xFFFFFFFFL);
    }

    // STATUS.

    private static void status() {
        keeps(768, -1, 0x7E79AAL | SHOWN | INTERRUPT);
        keeps(768, ~0x7E79AAL, SHOWN);
        keeps(768, 0x2000, 0x2000 | SHOWN);
        keeps(768, 0x4000, 0x4000 | SHOWN);
        keeps(768, 0x6000, 0x6000 | SHOWN | INTERRUPT);
        Rig.due("all of it as 256", written(768, -1).control(256), 0xC6122L | SEEN | INTERRUPT);
        Rig.due("what 256 may change", written(256, -1).control(768), 0xC6122L | SHOWN | INTERRUPT);
        Stage s = new Stage().with(1, -1).run(Rig.csrrw(0, 768, 1), Rig.csrrw(0, 256, 0));
        Rig.due("what 256 leaves", s.control(768), 0x7E79AAL & ~0xC6122L | SHOWN);
        Rig.due("769 stays", written(769, 0).control(769), INTERRUPT | 0x14112D);
        Rig.due("769 stays", written(769, -1).control(769), INTERRUPT | 0x14112D);
    }

    /** "MPP never becomes 2: a write that would make it so leaves MPP (the other bits are written)". */
    private static void mpp() {
        for (long mpp : new long[] {0, 1, 3}) {
            Stage s = new Stage().withStatus(mpp << 11).with(1, 2 << 11 | MPIE).run(Rig.csrrw(0, 768, 1));
            Rig.due("2 written over " + mpp, s.control(768), mpp << 11 | MPIE | SHOWN);
        }
        Stage s = new Stage().with(1, 2 << 11 | MPIE).run(Rig.csrrs(0, 768, 1));
        Rig.due("2 set on 0", s.control(768), 0x2000 | MPIE | SHOWN);
        s = new Stage().withStatus(1 << 11).with(1, 2 << 11).run(Rig.csrrs(0, 768, 1));
        Rig.due("2 set on 1", s.control(768), 0x2000 | 3 << 11 | SHOWN);
        s = new Stage().withStatus(3 << 11 | MPIE).with(1, 1 << 11 | MPIE).run(Rig.csrrc(0, 768, 1));
        Rig.due("1 cleared of 3", s.control(768), 0x2000 | 3 << 11 | SHOWN);
        s = new Stage().withStatus(3 << 11).with(1, 2 << 11).run(Rig.csrrc(0, 768, 1));
        Rig.due("2 cleared of 3", s.control(768), 0x2000 | 1 << 11 | SHOWN);
        Rig.due("no breach", s.machine.breaches(), 0);
        s = new Stage().withStatus(1 << 11).with(1, 2 << 11).run(Rig.csrrw(0, 256, 1));
        Rig.due("256 has no MPP", s.control(768), 1 << 11 | SHOWN);
    }

    // Masks.

    private static void masks() {
        keeps(770, -1, 46079);
        keeps(770, 1 << 10 | 1 << 11 | 1 << 14 | 1 << 16, 0);
        keeps(771, -1, 546);
        keeps(771, ~546, 0);
        keeps(772, -1, 2730);
        keeps(772, ~2730, 0);
        keeps(836, -1, 546);
        keeps(836, 8 | 128 | 2048, 0);
        keeps(773, -1, -3);
        keeps(773, 2, 0);
        keeps(261, 3, 1);
        keeps(833, -1, -2);
        keeps(321, 1, 0);
        keeps(774, -1, 7);
        keeps(262, 8, 0);
        for (int k : new int[] {832, 320, 834, 322, 835, 323}) {
            Rig.due("register " + k, new Stage().with(1, Long.MIN_VALUE + 1).run(Rig.csrrw(0, k, 1)).control(k), Long.MIN_VALUE + 1);
        }
        Rig.due("260 with nothing delegated changes nothing", written(260, -1).control(772), 0);
        Stage s = new Stage().withControl(771, -1).with(1, -1).run(Rig.csrrw(0, 260, 1));
        Rig.due("260 with all delegated", s.control(772), 546);
        s = new Stage().withControl(772, -1).withControl(771, 2).run(Rig.csrrs(3, 260, 0));
        Rig.due("260 shows what is delegated", s.x(3), 2);
        s = new Stage().withControl(772, -1).withControl(771, 2).run(Rig.csrrw(0, 260, 0));
        Rig.due("260 leaves the others", s.control(772), 2728);
        Rig.due("324 with nothing delegated", written(324, -1).control(836), 0);
        s = new Stage().withControl(771, -1).with(1, -1).run(Rig.csrrw(0, 324, 1));
        Rig.due("324 with all delegated changes bit 1 alone", s.control(836), 2);
        s = new Stage().withControl(771, 544).withControl(836, -1).run(Rig.csrrw(3, 324, 0));
        Rig.due("324 shows what is delegated", s.x(3), 544);
        Rig.due("and changes nothing without bit 1", s.control(836), 546);
    }

    private static void table() {
        long rest = 0x0FFFFFFFFFFFFFFFL;
        for (long sort = 0; sort < 16; sort++) {
            boolean isTold = sort == 0 || sort == 8 || sort == 9;
            keeps(384, sort << 60 | rest, isTold ? sort << 60 | rest : 0);
        }
        Stage s = new Stage().withControl(384, 8L << 60 | 5).with(1, 2L << 60 | 8).run(Rig.csrrs(3, 384, 1));
        Rig.due("SET that makes another sort changes nothing", s.control(384), 8L << 60 | 5);
        s = new Stage().withControl(384, 8L << 60 | 5).with(1, 1L << 60 | 8).run(Rig.csrrs(3, 384, 1));
        Rig.due("SET that makes 9", s.control(384), 9L << 60 | 13);
        s = new Stage().withControl(384, 9L << 60 | 5).with(1, 8L << 60 | 1).run(Rig.csrrc(3, 384, 1));
        Rig.due("CLEAR that makes 1 changes nothing", s.control(384), 9L << 60 | 5);
    }

    // ACCESS.

    private static void thereIsNone() {
        for (int k : new int[] {0, 4, 5, 255, 257, 258, 259, 263, 319, 325, 383, 385, 767, 775, 831, 837, 2815, 2817, 2819,
            3071, 3075, 3856, 3862, 4095}) {
            illegal("register " + k, new Stage(), Rig.csrrs(3, k, 0));
        }
    }

    private static void modes() {
        illegal("768 in mode 1", new Stage().inMode(1), Rig.csrrs(3, 768, 0));
        illegal("256 in mode 0", new Stage().inMode(0), Rig.csrrs(3, 256, 0));
        illegal("3857 in mode 1", new Stage().inMode(1), Rig.csrrs(3, 3857, 0));
        illegal("2816 in mode 1", new Stage().inMode(1), Rig.csrrs(3, 2816, 0));
        illegal("928 in mode 1", new Stage().inMode(1), Rig.csrrs(3, 928, 0));
        new Stage().inMode(1).run(Rig.csrrs(3, 256, 0)).gives("256 in mode 1", 3, 0x2000 | SEEN);
        new Stage().inMode(0).run(Rig.csrrs(3, 3, 0)).gives("3 in mode 0", 3, 0);
        for (int k : new int[] {3857, 3858, 3859, 3860, 3861, 3072, 3073, 3074}) {
            illegal("a write to " + k, new Stage(), Rig.csrrw(3, k, 0));
        }
        illegal("384 in mode 1 with TVM", new Stage().inMode(1).withStatus(TVM), Rig.csrrs(3, 384, 0));
        illegal("384 in mode 1 with TVM, written", new Stage().inMode(1).withStatus(TVM), Rig.csrrw(3, 384, 0));
        new Stage().inMode(1).run(Rig.csrrs(3, 384, 0)).gives("384 in mode 1", 3, 0);
        new Stage().withStatus(TVM).run(Rig.csrrs(3, 384, 0)).gives("384 in mode 3 with TVM", 3, 0);
        illegal("384 in mode 0", new Stage().inMode(0), Rig.csrrs(3, 384, 0));
        for (int k = 1; k <= 3; k++) {
            illegal(k + " with FS 0", new Stage().withoutFloats(), Rig.csrrs(3, k, 0));
            illegal(k + " with FS 0, written", new Stage().withoutFloats(), Rig.csrrwi(3, k, 1));
            new Stage().run(Rig.csrrs(3, k, 0)).gives(k + " with FS 1", 3, 0);
        }
    }

    /** "for 3072 + k in mode 0 or 1 if bit k of 774 is 0, and in mode 0 if bit k of 262 is 0". */
    private static void openCounts() {
        for (int k = 0; k < 3; k++) {
            int w = Rig.csrrs(3, 3072 + k, 0);
            illegal("closed, in mode 1", new Stage().inMode(1).withControl(774, 7 & ~(1 << k)).withControl(262, 7), w);
            illegal("closed, in mode 0", new Stage().inMode(0).withControl(774, 7 & ~(1 << k)).withControl(262, 7), w);
            illegal("closed by the supervisor, in mode 0", new Stage().inMode(0).withControl(774, 7)
                    .withControl(262, 7 & ~(1 << k)), w);
            new Stage().inMode(1).withControl(774, 1 << k).run(w).fine("open, in mode 1", 4);
            new Stage().inMode(0).withControl(774, 1 << k).withControl(262, 1 << k).run(w).fine("open, in mode 0", 4);
            new Stage().run(w).fine("closed, in mode 3", 4);
        }
    }

    /** "What it has ... is what reading shows, but for bit 9 of 836, without its line". */
    private static void outsideLine() {
        // Source 10, enabled by context 1, waits: line 9 is on.
        Stage s = new Stage().with(1, Rig.CONTROLLER).with(2, Rig.CONTROLLER + 8192 + 128).with(4, 1 << 10)
                .with(6, Rig.SERIAL).with(7, 2).with(8, 512)
                .run(Rig.store(4, 7, 1, 40), Rig.store(4, 4, 2, 0), Rig.store(1, 7, 6, 1), Rig.csrrs(9, 836, 0),
                        Rig.csrrs(12, 836, 7), Rig.csrrs(13, 836, 0), Rig.csrrc(14, 836, 7), Rig.store(4, 0, 2, 0),
                        Rig.csrrs(15, 836, 0), Rig.store(4, 4, 2, 0), Rig.csrrs(16, 836, 8), Rig.csrrs(18, 836, 0),
                        Rig.store(4, 0, 2, 0), Rig.csrrs(17, 836, 0));
        Rig.due("the line shows", s.x(9), 512);
        Rig.due("and what was set", s.x(13), 514);
        Rig.due("the line was not kept", s.x(15), 0);
        Rig.due("both bit 9 and its line", s.x(18), 512);
        Rig.due("bit 9 itself was set", s.x(17), 512);
    }

    private static final int[] INTERRUPTS = {1, 5, 9};

    private static long some(int subset) {
        long v = 0;
        for (int i = 0; i < 3; i++) {
            v |= (subset >> i & 1) == 1 ? 1L << INTERRUPTS[i] : 0;
        }
        return v;
    }

    private static long operated(int operation, long before, long operand) {
        return operation == 1 ? operand : operation == 2 ? before | operand : before & ~operand;
    }

    /** 260 and 324: all that may be delegated, enabled, or pending, and all operations. */
    private static void throughOthers() {
        Rig rig = new Rig(1);
        for (int i = 0; i < 512; i++) {
            long handed = some(i & 7), there = some(i >> 3 & 7), operand = some(i >> 6) | 0x888;
            for (int operation = 1; operation <= 3; operation++) {
                int by260 = Rig.i(115, 6, operation, 3, 260), by324 = Rig.i(115, 7, operation, 3, 324);
                rig.exec(new long[] {handed, there | 0x800, operand, there}, Rig.csrrw(0, 771, 1), Rig.csrrw(0, 772, 2),
                        Rig.csrrw(0, 836, 4), by260, by324, Rig.csrrs(8, 260, 0), Rig.csrrs(9, 324, 0));
                long enabled = operated(operation, there & handed, operand), pending = enabled;
                String told = "771 " + handed + ", there " + there + ", operation " + operation + " with " + operand;
                Rig.due(told + ": 260 before", rig.x(6), there & handed);
                Rig.due(told + ": 324 before", rig.x(7), there & handed);
                long want = there & ~handed | enabled & handed;
                Rig.due(told + ": 772", rig.csr(772), want | 0x800);
                Rig.due(told + ": 260", rig.x(8), want & handed);
                want = there & ~(handed & 2) | pending & handed & 2;
                Rig.due(told + ": 836", rig.csr(836), want);
                Rig.due(told + ": 324", rig.x(9), want & handed);
                Rig.due(told + ": no trap", rig.csr(834), 0);
            }
        }
    }

    private static final int[] REGISTERS = {1, 2, 3, 256, 260, 261, 262, 320, 321, 322, 323, 324, 384, 768, 769, 770, 771, 772,
        773, 774, 832, 833, 834, 835, 836, 928, 930, 944, 945, 946, 947, 948, 949, 950, 951, 952, 955, 959, 2816, 2818, 3072,
        3074, 3857, 3858, 3859, 3860, 3861};
    /** Those that show, of what is written to the first, something too. */
    private static final int[][] TOGETHER = {{768, 256}, {256, 768}, {771, 260, 324}, {772, 260}, {260, 772}, {836, 324},
        {324, 836}, {1, 3, 768, 256}, {2, 3, 768, 256}, {3, 1, 2, 768, 256}};

    private static boolean isTogether(int k, int other) {
        for (int[] some : TOGETHER) {
            for (int i = 1; some[0] == k && i < some.length; i++) {
                if (some[i] == other) {
                    return true;
                }
            }
        }
        return k == other || other == 2816 || other == 2818 || other == 3072 || other == 3074;
    }

    /** A write changes its own register, what shows the same, and the counts: no other. */
    private static void othersStay() {
        for (int k : REGISTERS) {
            for (long v : new long[] {-1, 0, 0x5A5A5A5A5A5A5A5AL, 0x8000000000000001L}) {
                if (k >= 3072) {
                    continue;
                }
                Stage s = new Stage().closed().withControl(3, 0x4B).withControl(770, 0x5155).withControl(771, 0x202)
                        .withControl(772, 0x8A2).withControl(773, 0x9001).withControl(774, 5).withControl(261, 0xA001)
                        .withControl(262, 3).withControl(384, 8L << 60 | 77).withControl(836, 0x220);
                for (int i = 0; i < 4; i++) {
                    s.withControl(320 + i, 0x1230 + 2 * i).withControl(832 + (i == 1 ? 0 : i), 0x4560 + 2 * i);
                }
                for (int i = 0; i < 8; i++) {
                    s.withControl(944 + i, 0x777000 + i);
                }
                s.withControl(928, 0x1B19180F0B090807L).with(1, v).words(CODE, Rig.csrrw(0, k, 1)).ready();
                long[] before = new long[REGISTERS.length];
                for (int i = 0; i < before.length; i++) {
                    before[i] = s.control(REGISTERS[i]);
                }
                s.more(1);
                Rig.due("it was written", s.machine.counter(0), CODE + 4);
                for (int i = 0; i < before.length; i++) {
                    if (!isTogether(k, REGISTERS[i])) {
                        Rig.due(REGISTERS[i] + " behind a write of " + v + " to " + k, s.control(REGISTERS[i]), before[i]);
                    }
                }
                Rig.due("modes stay", s.machine.mode(0), 3);
            }
        }
    }

    // A TRAP.

    private static void traps() {
        // Delegated, but in mode 3: to the machine.
        new Stage().withControl(770, -1).run(-1).due("delegated, in mode 3", 2, 0xFFFFFFFFL);
        new Stage().inMode(1).withControl(770, ~4).run(-1).due("not delegated, in mode 1", 2, 0xFFFFFFFFL);
        Stage s = new Stage().inMode(1).withControl(770, 4).withControl(261, 0x9003).withStatus(SIE).run(-1);
        Rig.due("to the supervisor: place", s.control(321), CODE);
        Rig.due("cause", s.control(322), 2);
        Rig.due("value", s.control(323), 0xFFFFFFFFL);
        Rig.due("status", s.control(768), SPP | SPIE | MPIE | 0x2000 | SHOWN);
        Rig.due("mode", s.machine.mode(0), 1);
        Rig.due("an exception does not go by its cause", s.machine.counter(0), 0x9000);
        Rig.due("the machine's are as they were", s.control(834) | s.control(835), 0);
        s = new Stage().inMode(0).withControl(770, 4).withStatus(SPP | SPIE).run(-1);
        Rig.due("of the user: SPP and SPIE become 0", s.control(768), MPIE | 0x2000 | SHOWN);
        s = new Stage().inMode(0).withStatus(MPIE).run(-1);
        Rig.due("to the machine: MIE goes to MPIE, MPP is 0", s.control(768), MPIE | 0x2000 | SHOWN);
        s = new Stage().inMode(1).run(-1);
        Rig.due("MPP is 1, MPIE is MIE", s.control(768), 1 << 11 | 0x2000 | SHOWN);
        s = new Stage().withStatus(MIE).run(-1);
        Rig.due("MPP is 3", s.control(768), MPIE | 3 << 11 | 0x2000 | SHOWN);
        // By a return of the supervisor MPP stays, whatever the mode is then: a trap writes all of it.
        for (int mode = 0; mode < 2; mode++) {
            for (int before : new int[] {0, 1, 3}) {
                s = new Stage().withStatus((long) before << 11 | (mode == 1 ? SPP : 0)).withControl(321, CODE + 4)
                        .run(Rig.SRET, Rig.NOP);
                Rig.due("MPP stays", s.control(768) >> 11 & 3, before);
                s.words(CODE + 8, Rig.ECALL).more(1);
                Rig.due("cause", s.control(834), 8 + mode);
                Rig.due("MPP is the mode", s.control(768) >> 11 & 3, mode);
            }
        }
        // 9 and 8 can be delegated, 11 cannot; 10 there is none.
        s = new Stage().inMode(1).withControl(770, -1).run(Rig.ECALL);
        Rig.due("9 is delegated", s.control(322), 9);
        s = new Stage().inMode(0).withControl(770, -1).run(Rig.ECALL);
        Rig.due("8 is delegated", s.control(322), 8);
        // All causes of data and fetches.
        s = new Stage().tables(1).withControl(770, 1 << 15).with(1, 8).run(Rig.store(8, 1, 1, 0));
        Rig.due("15 is delegated", s.control(322), 15);
        Rig.due("with its value", s.control(323), 8);
    }

    private static Stage interrupted(int mode, long status, long vectors) {
        return new Stage().inMode(mode).withStatus(status).withControl(773, vectors).withControl(261, vectors)
                .withControl(772, 32).withControl(836, 32);
    }

    private static void vectors() {
        Stage s = interrupted(1, 0, 0x9001).ready().more(1);
        Rig.due("by its cause with bit 0", s.machine.counter(0), 0x9000 + 20);
        s = interrupted(1, 0, 0x9000).ready().more(1);
        Rig.due("not without", s.machine.counter(0), 0x9000);
        s = interrupted(1, 0, -3).ready().more(1);
        Rig.due("it wraps", s.machine.counter(0), 16);
        s = interrupted(0, 0, 0x9001).withControl(771, 32).ready().more(1);
        Rig.due("the supervisor's", s.machine.counter(0), 0x9000 + 20);
        Rig.due("bit 63 of the cause", s.control(322), INTERRUPT | 5);
        Rig.due("mode", s.machine.mode(0), 1);
        s = new Stage().withControl(773, 0x9001).run(Rig.ECALL);
        Rig.due("an exception with bit 0", s.machine.counter(0), 0x9000);
    }

    // A RETURN.

    private static void returned(String what, long status, int w, int mode, long want) {
        Stage s = new Stage().withStatus(status).withControl(321, 0x9000);
        s.rig.words(CODE, w);
        s.ready().more(1);
        Rig.due(what + ": mode", s.machine.mode(0), mode);
        Rig.due(what + ": status", s.control(768), want | 0x2000 | SHOWN);
        Rig.due(what + ": goes on", s.machine.counter(0), w == Rig.MRET ? CODE : 0x9000);
    }

    private static void returns() {
        returned("to the user", 0, Rig.MRET, 0, MPIE);
        returned("to the user with MPIE", MPIE, Rig.MRET, 0, MPIE | MIE);
        returned("to the user with MIE", MIE, Rig.MRET, 0, MPIE);
        returned("to the supervisor with MPRV", 1 << 11 | MPRV, Rig.MRET, 1, MPIE);
        returned("to the machine with MPRV", 3 << 11 | MPRV, Rig.MRET, 3, MPIE | MPRV);
        returned("of the supervisor to the user", MPRV, Rig.SRET, 0, SPIE);
        returned("of the supervisor to itself", SPP | SPIE | MPRV, Rig.SRET, 1, SPIE | SIE);
        returned("of the supervisor, MPP stays", 3 << 11 | SIE, Rig.SRET, 0, 3 << 11 | SPIE);
        illegal("of the machine in mode 1", new Stage().inMode(1), Rig.MRET);
        illegal("of the supervisor in mode 0", new Stage().inMode(0), Rig.SRET);
    }

    // TO BE TAKEN.

    /** The interrupt that is taken in a mode, of all that are pending and enabled; 0 for none. */
    private static long taken(int mode, long status, long pending, long enabled, long delegated) {
        Stage s = new Stage().inMode(mode).withStatus(status).withControl(771, delegated).withControl(772, enabled)
                .withControl(836, pending);
        s.words(CODE, Rig.NOP).ready().more(1);
        return s.control(834) != 0 ? s.control(834) & 63 : s.control(322) & 63;
    }

    private static void toBeTaken() {
        Rig.due("not delegated, in mode 0 without MIE", taken(0, 0, 2, 2, 0), 1);
        Rig.due("not delegated, in mode 1 without MIE", taken(1, 0, 2, 2, 0), 1);
        Rig.due("not delegated, in mode 3 without MIE", taken(3, 0, 2, 2, 0), 0);
        Rig.due("delegated, in mode 0 without SIE", taken(0, 0, 2, 2, 2), 1);
        Rig.due("delegated, in mode 1 without SIE", taken(1, 0, 2, 2, 2), 0);
        Rig.due("delegated, in mode 1 with SIE", taken(1, SIE, 2, 2, 2), 1);
        Rig.due("delegated, in mode 3 with SIE", taken(3, SIE, 2, 2, 2), 0);
        Rig.due("not enabled", taken(0, SIE, 2, 544, 0), 0);
        Rig.due("not pending", taken(0, SIE, 0, -1, 0), 0);
        Rig.due("9 before 1 and 5", taken(0, 0, 546, 546, 0), 9);
        Rig.due("1 before 5", taken(0, 0, 34, 34, 0), 1);
        Rig.due("5 alone", taken(0, 0, 32, 32, 0), 5);
        Rig.due("not delegated comes first", taken(0, 0, 546, 546, 514), 5);
        Rig.due("delegated ones: 9 before 1", taken(0, 0, 546, 546, 546), 9);
        Rig.due("not delegated comes first, in mode 1 with SIE", taken(1, SIE, 546, 546, 512), 1);
        // Delegated, in mode 3 with MIE.
        Stage s = new Stage().withStatus(MIE | SIE).withControl(771, 2).withControl(772, 2).with(1, 2)
                .run(Rig.csrrw(0, 836, 1), Rig.NOP);
        s.fine("delegated, in mode 3", 8);
        s = new Stage().withStatus(MIE).withControl(772, 2).with(1, 2).run(Rig.csrrw(0, 836, 1), Rig.NOP);
        Rig.due("not delegated, in mode 3 with MIE", s.control(834), INTERRUPT | 1);
    }

    /** The lines' own: 11, 3, 7, and then 9. */
    private static void orderOfLines() {
        long[] want = {11, 3, 7, 9, 1, 5};
        long enabled = 2730;
        for (int i = 0; i < want.length; i++) {
            Stage s = new Stage().with(1, Rig.TIMER).with(2, 1).with(3, Rig.TIMER + 16384).with(4, Rig.CONTROLLER)
                    .with(5, Rig.CONTROLLER + 8192).with(6, 1 << 10).with(7, Rig.SERIAL).with(8, 2).with(9, enabled)
                    .with(12, 546).with(13, MIE)
                    .run(Rig.store(4, 2, 1, 0), Rig.store(8, 0, 3, 0), Rig.store(4, 8, 4, 40), Rig.store(4, 6, 5, 0),
                            Rig.store(1, 8, 7, 1), Rig.csrrw(0, 836, 12), Rig.csrrw(0, 772, 9), Rig.csrrw(0, 768, 13),
                            Rig.NOP);
            Rig.due("all are pending", s.control(836), 2730);
            Rig.due("taken of " + enabled, s.control(834), INTERRUPT | want[i]);
            enabled &= ~(1L << want[i]);
        }
    }

    public static void main(String[] args) {
        status();
        mpp();
        masks();
        table();
        thereIsNone();
        modes();
        openCounts();
        outsideLine();
        throughOthers();
        othersStay();
        traps();
        vectors();
        returns();
        toBeTaken();
        orderOfLines();
        Rig.finish("EdgesControlTest");
    }
}
