import java.util.Random;

/** Part 4, and CONTROL: registers, traps, returns, interrupts, waiting. */
public final class ControlTest {
    private static final int STATUS = 768, EDELEG = 770, IDELEG = 771, ENABLED = 772, PENDING = 836;
    private static final long SIE = 2, MIE = 8, SPIE = 32, MPIE = 128, SPP = 256, MPRV = 1 << 17;
    private static final long TVM = 1 << 20, TW = 1 << 21, TSR = 1 << 22, SHOWN = 10L << 32;
    private static final Rig rig = new Rig(2);
    private static final Random random = new Random(11);

    // Plain registers.

    private static void masked(int k, long mask) {
        for (long v : new long[] {-1L, 0x5555555555555555L, 0xAAAAAAAAAAAAAAAAL & ~(3L << 11), random.nextLong()}) {
            rig.exec(new long[] {v, -1L}, Rig.csrrw(3, k, 1), Rig.csrrs(4, k, 0), Rig.csrrc(5, k, 2),
                    Rig.csrrs(6, k, 1), Rig.csrrs(7, k, 0));
            Rig.due("register " + k + " at first", rig.x(3), 0);
            Rig.due("register " + k + " written", rig.x(4), v & mask);
            Rig.due("register " + k + " before clearing", rig.x(5), v & mask);
            Rig.due("register " + k + " cleared", rig.x(6), 0);
            Rig.due("register " + k + " set", rig.x(7), v & mask);
            Rig.due("register " + k + " shown", rig.csr(k), v & mask);
            Rig.due("no trap", rig.csr(834), k == 834 ? v : 0);
        }
    }

    private static void plainRegisters() {
        masked(EDELEG, 46079);
        masked(IDELEG, 546);
        masked(ENABLED, 2730);
        masked(773, ~2L);
        masked(261, ~2L);
        masked(833, ~1L);
        masked(321, ~1L);
        masked(774, 7);
        masked(262, 7);
        for (int k : new int[] {832, 320, 834, 322, 835, 323}) {
            masked(k, -1L);
        }
        masked(PENDING, 546);
        for (int k : new int[] {3857, 3858, 3859, 3861}) {
            rig.exec(new long[] {5}, Rig.csrrs(3, k, 0));
            Rig.due("register " + k, rig.x(3), 0);
            Rig.due("no trap", rig.csr(834), 0);
        }
        rig.exec(new long[] {-1L}, Rig.csrrw(3, 769, 1), Rig.csrrs(4, 769, 0));
        long abilities = 1L << 63 | 1 | 4 | 8 | 32 | 256 | 1 << 12 | 1 << 18 | 1 << 20;
        Rig.due("769", rig.x(3), abilities);
        Rig.due("769 behind a write", rig.x(4), abilities);
        Rig.due("no trap", rig.csr(834), 0);
        Rig.due("number of processor 0", rig.csr(3860), 0);
        Rig.due("number of processor 1", rig.machine.control(1, 3860), 1);
    }

    private static void immediates() {
        rig.exec(new long[] {}, Rig.csrrwi(3, 832, 21), Rig.i(115, 4, 6, 10, 832), Rig.i(115, 5, 7, 3, 832),
                Rig.csrrs(6, 832, 0));
        Rig.due("written", rig.x(4), 21);
        Rig.due("set", rig.x(5), 31);
        Rig.due("cleared", rig.x(6), 28);
        rig.exec(new long[] {7}, Rig.csrrw(0, 832, 1), Rig.i(115, 3, 6, 0, 3857), Rig.csrrs(4, 3857, 0),
                Rig.i(115, 5, 7, 0, 3857));
        Rig.due("nothing is written by the field 0", rig.csr(834), 0);
        rig.exec(new long[] {0}, Rig.csrrs(3, 3857, 1));
        Rig.due("a register with 0 is a write", rig.csr(834), 2);
        rig.exec(new long[] {7}, Rig.csrrwi(3, 832, 9), Rig.csrrw(3, 832, 0), Rig.csrrs(4, 832, 0));
        Rig.due("register 0 is written by operation 1", rig.x(4), 0);
        rig.exec(new long[] {7}, Rig.i(115, 3, 4, 1, 832));
        Rig.due("f 4", rig.csr(834), 2);
    }

    private static void tableRegister() {
        for (int sort = 0; sort < 16; sort++) {
            long v = (long) sort << 60 | 0x0123456789ABCDEL;
            rig.exec(new long[] {7, v}, Rig.csrrw(0, 384, 1), Rig.csrrw(3, 384, 2));
            Rig.due("table of sort " + sort, rig.csr(384), sort == 0 || sort == 8 || sort == 9 ? v : 7);
            Rig.due("no trap", rig.csr(834), 0);
        }
    }

    private static void status() {
        long named = 0x7E79AAL;
        rig.exec(new long[] {-1L, 1L << 12, 1L << 11, 0}, Rig.csrrw(0, STATUS, 1), Rig.csrrs(5, STATUS, 0),
                Rig.csrrs(6, 256, 0), Rig.csrrc(0, STATUS, 3), Rig.csrrs(7, STATUS, 0), Rig.csrrw(0, STATUS, 2),
                Rig.csrrs(8, STATUS, 0), Rig.csrrw(0, STATUS, 0), Rig.csrrs(0, STATUS, 2));
        Rig.due("all of the status", rig.x(5), named | SHOWN | 1L << 63);
        Rig.due("all of it for the supervisor", rig.x(6), 0xC6122L | 2L << 32 | 1L << 63);
        Rig.due("MPP does not become 2 by clearing", rig.x(7), named | SHOWN | 1L << 63);
        Rig.due("nor by writing, and the others are written", rig.x(8), 3L << 11 | SHOWN);
        Rig.due("nor by setting", rig.csr(STATUS), SHOWN);
        rig.exec(new long[] {-1L}, Rig.csrrw(0, 256, 1));
        Rig.due("what the supervisor may write", rig.csr(STATUS), 0xC6122L | SHOWN | 1L << 63);
        rig.exec(new long[] {-1L, 0x4000}, Rig.csrrw(0, STATUS, 1), Rig.csrrw(0, 256, 2));
        Rig.due("what it leaves", rig.csr(STATUS), named & ~0xC6122L | 0x4000 | SHOWN);
    }

    private static void interruptRegisters() {
        rig.exec(new long[] {-1L, 0x22, 0x20, 0x222}, Rig.csrrw(0, IDELEG, 2), Rig.csrrw(0, 260, 1), Rig.csrrs(5, ENABLED, 0),
                Rig.csrrw(0, ENABLED, 1), Rig.csrrs(6, 260, 0), Rig.csrrc(0, 260, 3), Rig.csrrs(7, ENABLED, 0),
                Rig.csrrw(0, 324, 1), Rig.csrrs(8, PENDING, 0));
        Rig.due("enabled by the supervisor", rig.x(5), 0x22);
        Rig.due("seen by it", rig.x(6), 0x22);
        Rig.due("cleared by it", rig.x(7), 0xAAA & ~0x20);
        Rig.due("pending by it", rig.x(8), 2);
        rig.exec(new long[] {-1L, 0x222, 0x200}, Rig.csrrw(0, PENDING, 1), Rig.csrrs(5, 324, 0), Rig.csrrw(0, IDELEG, 3),
                Rig.csrrw(0, 324, 0), Rig.csrrs(6, 324, 0), Rig.csrrs(7, PENDING, 0));
        Rig.due("nothing of it is seen that is not handed", rig.x(5), 0);
        Rig.due("what is handed is seen", rig.x(6), 0x200);
        Rig.due("and not changed", rig.x(7), 0x222);
    }

    /** Setting and clearing leave the other bits that were written. */
    private static void otherBits() {
        for (int k : new int[] {STATUS, EDELEG, IDELEG, ENABLED, PENDING, 832, 774, 262, 773, 833}) {
            rig.exec(new long[] {4, 0x22, 2}, Rig.csrrw(0, IDELEG, 2), Rig.csrrw(0, k, 2), Rig.csrrc(5, k, 3),
                    Rig.csrrs(6, k, 3), Rig.csrrs(7, k, 0));
            Rig.due("what was written to " + k, rig.x(7), rig.x(5));
            Rig.due("what was cleared of " + k, rig.x(6), rig.x(5) & ~2L);
        }
    }

    private static void counts() {
        rig.prepare(new long[] {100, 200}, Rig.csrrw(0, 2816, 1), Rig.csrrs(3, 2816, 0), Rig.csrrw(0, 2818, 2),
                Rig.csrrs(4, 2818, 0), Rig.csrrs(5, 3072, 0), Rig.csrrs(6, 3074, 0), Rig.csrrs(7, 3073, 0));
        long cycles = rig.csr(2816), instructions = rig.csr(2818);
        Rig.due("cycles", cycles, 32);
        Rig.due("instructions", instructions, 32);
        rig.machine.run(7);
        Rig.due("cycles behind a write", rig.x(3), 101);
        Rig.due("instructions behind a write", rig.x(4), 201);
        Rig.due("cycles", rig.x(5), 104);
        Rig.due("instructions", rig.x(6), 203);
        Rig.due("cycles now", rig.csr(3072), 107);
        Rig.due("time", rig.csr(3073), rig.machine.time());
        Rig.due("no such number", rig.csr(4096) | rig.csr(-1) | rig.csr(Integer.MIN_VALUE) | rig.csr(2817), 0);
    }

    // What is there, and who may reach it.

    private static boolean isThere(int k) {
        for (int there : new int[] {768, 256, 769, 770, 771, 772, 260, 836, 324, 773, 261, 833, 321, 832, 320, 834, 322,
            835, 323, 774, 262, 384, 2816, 2818, 3857, 3858, 3859, 3861, 3860, 3072, 3073, 3074, 1, 2, 3, 928, 930}) {
            if (k == there) {
                return true;
            }
        }
        return k >= 944 && k <= 959;
    }

    /** Sets the machine up so that the next words run in a mode; registers 20 .. 26 are used for that. */
    private static void inMode(int mode, long status, long edeleg, long ideleg, long[] more, int... words) {
        long[] registers = new long[29];
        System.arraycopy(more, 0, registers, 0, more.length);
        registers[19] = status | (long) mode << 11 | 0x2000;
        registers[20] = Rig.BASE + 128 + 4 * 11;
        registers[21] = 0x1F;
        registers[22] = -1L;
        registers[23] = edeleg;
        registers[24] = ideleg;
        registers[25] = 0x9001;
        registers[26] = 0xA001;
        int[] setUp = {Rig.csrrw(0, STATUS, 20), Rig.csrrw(0, 833, 21), Rig.csrrw(0, 928, 22), Rig.csrrw(0, 944, 23),
            Rig.csrrw(0, EDELEG, 24), Rig.csrrw(0, IDELEG, 25), Rig.csrrw(0, 773, 26), Rig.csrrw(0, 261, 27),
            Rig.csrrw(0, 774, 15), Rig.csrrw(0, 262, 16), Rig.MRET};
        int[] all = new int[setUp.length + words.length];
        System.arraycopy(setUp, 0, all, 0, setUp.length);
        System.arraycopy(words, 0, all, setUp.length, words.length);
        rig.prepare(registers, all);
        rig.machine.run(setUp.length);
        Rig.due("mode", rig.machine.mode(0), mode);
    }

    private static final long HERE = Rig.BASE + 128 + 44;

    private static void rights() {
        for (int mode : new int[] {0, 1, 3}) {
            for (int k = 0; k < 4096; k++) {
                if (!isThere(k) && random.nextInt(20) > 0) {
                    continue;
                }
                for (int writes = 0; writes < 2; writes++) {
                    boolean legal = isThere(k) && (k >> 8 & 3) <= mode && (writes == 0 || k >> 10 != 3);
                    if (k >= 3072 && k <= 3074 && mode < 3) {
                        legal = false;
                    }
                    inMode(mode, 0, 0, 0, new long[] {0}, writes == 1 ? Rig.i(115, 3, 6, 1, k) : Rig.csrrs(3, k, 0));
                    rig.machine.run(1);
                    String told = "register " + k + " in mode " + mode + (writes == 1 ? " written" : " read");
                    boolean trapped = rig.machine.counter(0) == 0x9000;
                    Rig.due(told + " legal", !trapped == legal);
                    if (trapped) {
                        Rig.due(told + " cause", rig.csr(834), 2);
                        Rig.due(told + " place", rig.csr(833), HERE);
                    }
                }
            }
        }
        // Counts that are open.
        for (int open = 0; open < 64; open++) {
            for (int mode : new int[] {0, 1, 3}) {
                int k = random.nextInt(3);
                long[] more = new long[16];
                more[14] = open & 7;
                more[15] = open >> 3;
                inMode(mode, 0, 0, 0, more, Rig.csrrs(3, 3072 + k, 0));
                rig.machine.run(1);
                boolean legal = mode == 3 || (open >> k & 1) == 1 && (mode == 1 || (open >> 3 + k & 1) == 1);
                Rig.due("count " + k + " in mode " + mode + " with " + open, rig.machine.counter(0) == HERE + 4 == legal);
            }
        }
        inMode(1, TVM, 0, 0, new long[] {}, Rig.csrrs(3, 384, 0));
        rig.machine.run(1);
        Rig.due("the table with TVM", rig.csr(834), 2);
        inMode(3, TVM, 0, 0, new long[] {}, Rig.csrrs(3, 384, 0));
        rig.machine.run(1);
        Rig.due("the table with TVM for the machine", rig.csr(834), 0);
    }

    // Instructions of the system.

    private static void system(String what, int mode, long status, int w, boolean legal, long counter) {
        inMode(mode, status, 0, 0, new long[] {}, w);
        rig.machine.run(1);
        if (legal) {
            Rig.due(what + " in mode " + mode, rig.machine.counter(0), counter);
            Rig.due(what + " instructions", rig.csr(2818), 44);
        } else {
            Rig.due(what + " in mode " + mode + " is illegal", rig.csr(834), 2);
            Rig.due(what + " value", rig.csr(835), w & 0xFFFFFFFFL);
            Rig.due(what + " goes on", rig.machine.counter(0), 0x9000);
            Rig.due(what + " mode", rig.machine.mode(0), 3);
            Rig.due(what + " instructions", rig.csr(2818), 43);
        }
    }

    private static void systemInstructions() {
        for (int mode : new int[] {0, 1, 3}) {
            for (int w : new int[] {Rig.ECALL, Rig.EBREAK}) {
                inMode(mode, 0, 0, 0, new long[] {}, w);
                rig.machine.run(1);
                Rig.due("cause", rig.csr(834), w == Rig.EBREAK ? 3 : 8 + mode);
                Rig.due("value", rig.csr(835), w == Rig.EBREAK ? HERE : 0);
                Rig.due("place", rig.csr(833), HERE);
                Rig.due("MPP", rig.csr(STATUS) >> 11 & 3, mode);
                Rig.due("instructions", rig.csr(2818), 43);
            }
            system("fence", mode, 0, Rig.SFENCE, mode != 0, HERE + 4);
            system("fence of 319 with a", mode, 0, 115 | 319 << 20 | 9 << 15, mode != 0, HERE + 4);
            system("fence with d", mode, 0, Rig.SFENCE | 1 << 7, false, 0);
            system("fence with TVM", mode, TVM, Rig.SFENCE, mode == 3, HERE + 4);
            system("320", mode, 0, 115 | 320 << 20, false, 0);
            system("287", mode, 0, 115 | 287 << 20, false, 0);
            system("wait", mode, 0, Rig.WFI, mode != 0, HERE + 4);
            system("wait with TW", mode, TW, Rig.WFI, mode == 3, HERE + 4);
            system("supervisor's return", mode, 0, Rig.SRET, mode != 0, 0);
            system("supervisor's return with TSR", mode, TSR, Rig.SRET, mode == 3, 0);
            system("machine's return", mode, 0, Rig.MRET, mode == 3, HERE);
            for (int w : new int[] {Rig.ECALL, Rig.EBREAK, Rig.WFI, Rig.SRET, Rig.MRET}) {
                system("with d", mode, 0, w | 1 << 7, false, 0);
                system("with a", mode, 0, w | 1 << 15, false, 0);
            }
            system("2", mode, 0, 115 | 2 << 20, false, 0);
        }
        Rig.due("no one waits", rig.machine.mode(0) & 4, 0);
    }

    private static void returns() {
        for (int i = 0; i < 200; i++) {
            long status = random.nextLong() & 0x7E79AAL & ~TVM & ~(3L << 13);
            int mpp = new int[] {0, 1, 3}[random.nextInt(3)];
            status = status & ~(3L << 11) | (long) mpp << 11;
            boolean supervisor = random.nextBoolean();
            rig.exec(new long[] {status, 0x1234568, 0x7654320}, Rig.csrrw(0, 833, 2), Rig.csrrw(0, 321, 3),
                    Rig.csrrw(0, STATUS, 1), supervisor ? Rig.SRET : Rig.MRET);
            int mode = supervisor ? (status & SPP) != 0 ? 1 : 0 : mpp;
            long want = status;
            if (supervisor) {
                want = want & ~(SIE | SPP) | ((want & SPIE) != 0 ? SIE : 0) | SPIE;
            } else {
                want = want & ~(MIE | 3L << 11) | ((want & MPIE) != 0 ? MIE : 0) | MPIE;
            }
            want = mode != 3 ? want & ~MPRV : want;
            Rig.due("mode behind a return", rig.machine.mode(0), mode);
            Rig.due("status behind a return of " + Long.toHexString(status), rig.csr(STATUS), want | SHOWN);
            Rig.due("counter behind a return", rig.machine.counter(0), supervisor ? 0x7654320 : 0x1234568);
        }
    }

    /** Exceptions of all modes, handed over or not. */
    private static void exceptions() {
        for (int i = 0; i < 300; i++) {
            int mode = new int[] {0, 1, 3}[random.nextInt(3)];
            long status = random.nextLong() & (SIE | SPIE | MPIE | SPP);
            long handed = random.nextBoolean() ? 46079 : random.nextInt(46080) & 46079;
            int[] words = {Rig.ECALL, Rig.EBREAK, 0, Rig.ld(3, 0, 0), Rig.store(8, 3, 0, 0), Rig.amo(0, 8, 3, 17, 0),
                Rig.amo(2, 8, 3, 17, 0)};
            int[] causes = {8 + mode, 3, 2, 5, 7, 6, 4};
            int which = random.nextInt(words.length);
            long[] more = new long[17];
            more[16] = Rig.DATA + 1;
            inMode(mode, status, handed, 0, more, words[which]);
            long before = rig.csr(STATUS);
            rig.machine.run(1);
            int c = causes[which];
            boolean down = mode < 3 && (handed >> c & 1) == 1;
            String told = "exception " + c + " in mode " + mode + " handed " + Long.toHexString(handed);
            Rig.due(told + " mode", rig.machine.mode(0), down ? 1 : 3);
            Rig.due(told + " goes on", rig.machine.counter(0), down ? 0xA000 : 0x9000);
            Rig.due(told + " place", rig.csr(down ? 321 : 833), HERE);
            Rig.due(told + " cause", rig.csr(down ? 322 : 834), c);
            Rig.due(told + " other cause", rig.csr(down ? 834 : 322), 0);
            long value = new long[] {0, HERE, 0, 0, 0, Rig.DATA + 1, Rig.DATA + 1}[which];
            Rig.due(told + " value", rig.csr(down ? 323 : 835), value);
            long want = down ? before & ~(SPP | SPIE | SIE) | (mode == 1 ? SPP : 0) | ((before & SIE) != 0 ? SPIE : 0)
                    : before & ~(3L << 11 | MPIE | MIE) | (long) mode << 11 | ((before & MIE) != 0 ? MPIE : 0);
            Rig.due(told + " status", rig.csr(STATUS), want);
        }
    }

    // Interrupts.

    private static int dueInterrupt(int mode, long status, long enabled, long pending, long handed) {
        int[] order = {11, 3, 7, 9, 1, 5};
        for (int down = 0; down < 2; down++) {
            for (int n : order) {
                boolean isHanded = (handed >> n & 1) == 1;
                boolean open = isHanded ? mode == 0 || mode == 1 && (status & SIE) != 0
                        : mode < 3 || (status & MIE) != 0;
                if (isHanded == (down == 1) && open && (enabled & pending) >> n << 63 != 0) {
                    return n;
                }
            }
        }
        return -1;
    }

    private static void interrupts() {
        for (int i = 0; i < 600; i++) {
            int mode = new int[] {0, 1, 3}[random.nextInt(3)];
            long status = random.nextLong() & (SIE | MIE | SPIE | MPIE);
            long enabled = random.nextInt(4096) & 2730, handed = random.nextInt(1024) & 546;
            long written = random.nextInt(1024) & 546;
            boolean soft = random.nextBoolean(), timer = random.nextBoolean();
            // Up to the return everything is prepared in mode 3 with MIE 0; MPIE and SIE become what is wanted.
            rig.poke(Rig.TIMER, 4, soft ? 1 : 0);
            rig.poke(Rig.TIMER + 16384, 8, timer ? 0 : -1L);
            long first = status & SIE | ((status & MIE) != 0 ? MPIE : 0) | (long) mode << 11;
            rig.exec(new long[] {first, 0x1F, -1L, handed, enabled, written, Rig.BASE + 0x800, 0x9001, 0xA001},
                    Rig.csrrw(0, STATUS, 1), Rig.csrrw(0, 928, 2), Rig.csrrw(0, 944, 3), Rig.csrrw(0, IDELEG, 4),
                    Rig.csrrw(0, ENABLED, 5), Rig.csrrw(0, PENDING, 6), Rig.csrrw(0, 833, 7), Rig.csrrw(0, 773, 8),
                    Rig.csrrw(0, 261, 9), Rig.MRET);
            long pending = written | (soft ? 8 : 0) | (timer ? 128 : 0);
            Rig.due("pending", rig.csr(PENDING), pending);
            Rig.due("pending for the supervisor", rig.csr(324), pending & handed);
            Rig.due("mode", rig.machine.mode(0), mode);
            int n = dueInterrupt(mode, status, enabled, pending, handed);
            long instructions = rig.csr(2818);
            rig.machine.run(1);
            String told = "interrupt of " + Long.toHexString(pending) + " enabled " + Long.toHexString(enabled)
                    + " handed " + Long.toHexString(handed) + " in mode " + mode;
            if (n < 0) {
                Rig.due(told + " no cause", rig.csr(834) == 2 || rig.csr(834) == 0);
                continue;
            }
            boolean down = (handed >> n & 1) == 1;
            Rig.due(told + " cause", rig.csr(down ? 322 : 834), n | 1L << 63);
            Rig.due(told + " value", rig.csr(down ? 323 : 835), 0);
            Rig.due(told + " place", rig.csr(down ? 321 : 833), Rig.BASE + 0x800);
            Rig.due(told + " goes on", rig.machine.counter(0), (down ? 0xA000 : 0x9000) + 4 * n);
            Rig.due(told + " mode behind", rig.machine.mode(0), down ? 1 : 3);
            Rig.due(told + " instructions", rig.csr(2818), instructions);
        }
        rig.poke(Rig.TIMER, 4, 0);
        rig.poke(Rig.TIMER + 16384, 8, -1L);
    }

    private static void vectors() {
        // Without bit 0 of the vectors an interrupt goes on where an exception does.
        rig.exec(new long[] {8, 2, 0x9000, MPIE | 3L << 11, Rig.BASE + 0x800}, Rig.csrrw(0, 773, 3),
                Rig.csrrw(0, 833, 5), Rig.csrrw(0, ENABLED, 2), Rig.csrrw(0, PENDING, 2), Rig.csrrw(0, STATUS, 4),
                Rig.MRET, Rig.NOP);
        Rig.due("goes on", rig.machine.counter(0), 0x9000);
        Rig.due("cause", rig.csr(834), 1 | 1L << 63);
    }

    /** The outside line of the supervisor shows in PENDING, but is not kept by setting other bits. */
    private static void outsideLine() {
        rig.poke(Rig.CONTROLLER + 40, 4, 1);
        rig.poke(Rig.CONTROLLER + 8192 + 128, 4, 1 << 10);
        rig.poke(Rig.SERIAL + 1, 1, 2);
        rig.exec(new long[] {2, 512}, Rig.csrrs(3, PENDING, 1), Rig.csrrs(4, PENDING, 0), Rig.csrrc(5, PENDING, 1));
        Rig.due("line 9 is on", rig.x(3), 512);
        Rig.due("line 9 and what was set", rig.x(4), 514);
        Rig.due("shown", rig.csr(PENDING), 512);
        rig.poke(Rig.CONTROLLER + 8192 + 128, 4, 0);
        Rig.due("line 9 is off", rig.csr(PENDING), 0);
        rig.poke(Rig.CONTROLLER + 8192 + 128, 4, 1 << 10);
        rig.exec(new long[] {2, 512, Rig.CONTROLLER + 8192 + 128}, Rig.csrrs(6, PENDING, 1), Rig.csrrc(5, PENDING, 1),
                Rig.store(4, 0, 3, 0));
        Rig.due("no trap", rig.csr(834), 0);
        Rig.due("it was not kept", rig.csr(PENDING), 0);
        rig.poke(Rig.CONTROLLER + 8192 + 128, 4, 1 << 10);
        rig.exec(new long[] {2, 512, Rig.CONTROLLER + 8192 + 128}, Rig.csrrs(6, PENDING, 2), Rig.store(4, 0, 3, 0));
        Rig.due("no trap", rig.csr(834), 0);
        Rig.due("it is kept when it was written", rig.csr(PENDING), 512);
        rig.poke(Rig.SERIAL + 1, 1, 0);
    }

    private static void waitingFor() {
        // Interrupts are enabled one by one, but not as a whole: it wakes, and takes none.
        rig.poke(Rig.TIMER, 4, 0);
        rig.exec(new long[] {8, 1, Rig.TIMER}, Rig.csrrw(0, ENABLED, 1), Rig.WFI, Rig.addi(5, 0, 7), Rig.addi(6, 0, 8));
        Rig.due("it waits", rig.machine.mode(0), 7);
        Rig.due("counter", rig.machine.counter(0), Rig.BASE + 136);
        long cycles = rig.csr(2816), instructions = rig.csr(2818);
        rig.machine.run(25);
        Rig.due("it still waits", rig.machine.mode(0), 7);
        Rig.due("cycles go on", rig.csr(2816), cycles + 25);
        Rig.due("instructions do not", rig.csr(2818), instructions);
        Rig.due("nothing was done", rig.x(5), 0);
        // Processor 1 runs the same program and waits too; a third way to wake it is the timer, by TIME.
        rig.exec(new long[] {128, Rig.TIMER + 16384, 1}, Rig.csrrw(0, ENABLED, 1), Rig.ld(4, 2, 0),
                Rig.csrrs(5, 3073, 0), Rig.addi(5, 5, 3), Rig.store(8, 5, 2, 0), Rig.WFI, Rig.addi(6, 0, 9), Rig.NOP);
        Rig.due("it waits for the timer", rig.machine.mode(0), 7);
        rig.machine.run(40);
        Rig.due("it waits no more", rig.machine.mode(0) & 4, 0);
        Rig.due("it went on", rig.x(6), 9);
        rig.poke(Rig.TIMER + 16384, 8, -1L);
        // With an interrupt that is pending and enabled it goes on at once.
        rig.exec(new long[] {2}, Rig.csrrw(0, ENABLED, 1), Rig.csrrw(0, PENDING, 1), Rig.WFI, Rig.addi(5, 0, 7));
        Rig.due("it does not wait", rig.x(5), 7);
        // And takes it where it is to be taken, from the place behind.
        rig.exec(new long[] {2, 8, 0x9000}, Rig.csrrw(0, 773, 3), Rig.csrrw(0, ENABLED, 1), Rig.csrrw(0, STATUS, 2),
                Rig.WFI);
        Rig.due("it waits with MIE", rig.machine.mode(0), 7);
        rig.exec(new long[] {8, 8, 0x9000, 1, Rig.TIMER}, Rig.csrrw(0, 773, 3), Rig.csrrw(0, ENABLED, 1), Rig.csrrw(0, STATUS, 2),
                Rig.store(4, 4, 5, 0), Rig.WFI);
        Rig.due("place of an interrupt", rig.csr(833), Rig.BASE + 144);
        Rig.due("its cause", rig.csr(834), 3 | 1L << 63);
        rig.poke(Rig.TIMER, 4, 0);
        rig.exec(new long[] {8}, Rig.WFI);
        rig.machine.start();
        Rig.due("no one waits behind start", rig.machine.mode(0), 3);
    }

    public static void main(String[] args) {
        plainRegisters();
        immediates();
        tableRegister();
        status();
        interruptRegisters();
        otherBits();
        counts();
        rights();
        systemInstructions();
        returns();
        exceptions();
        interrupts();
        vectors();
        outsideLine();
        waitingFor();
        Rig.due("breaches", rig.machine.breaches(), 0);
        Rig.finish("ControlTest");
    }
}
