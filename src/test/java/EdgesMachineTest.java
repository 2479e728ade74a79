/** THE MACHINE: each sentence that names a boundary case (windows, the end, a round, a step, data, control). */
public final class EdgesMachineTest {
    private static final long BASE = Rig.BASE, BEHIND = BASE + 4194304, CODE = Stage.CODE, DATA = Stage.DATA;
    private static final long MPRV = 1 << 17, TVM = 1 << 20, TW = 1 << 21, TSR = 1 << 22, MIE = 8;
    private static final int ENDING = 0x5555;

    private static Stage load(int n, long at) {
        return new Stage().with(1, at).with(3, 77).run(Rig.i(3, 3, n == 8 ? 3 : 4 + Rig.log(n), 1, 0));
    }

    private static Stage store(int n, long at, long v) {
        return new Stage().with(1, at).with(2, v).run(Rig.store(n, 2, 1, 0));
    }

    private static void loadFaults(int n, long at, long value) {
        Stage s = load(n, at).due("load of " + n + " at " + at, 5, value);
        Rig.due("its register stays", s.x(3), 77);
    }

    private static void storeFaults(int n, long at, long value) {
        store(n, at, -1).due("store of " + n + " at " + at, 7, value);
    }

    // MEMORY has 4,194,304 bytes, at the physical addresses from 2^31 on; the lowest byte first.

    private static void memoryEnds() {
        long last = 0x8877665544332211L;
        new Stage().memory(BEHIND - 8, last).with(1, BEHIND - 1).run(Rig.i(3, 3, 4, 1, 0)).gives("the last byte", 3, 0x88);
        new Stage().memory(BEHIND - 8, last).with(1, BEHIND - 8).run(Rig.ld(3, 1, 0)).gives("the last eight", 3, last);
        new Stage().memory(BEHIND - 8, last).with(1, BEHIND - 8).run(Rig.i(3, 3, 5, 1, 0)).gives("lowest first", 3, 0x2211);
        load(1, BASE).gives("the first byte", 3, new Rig(1).machine.word(BASE) | Rig.lui(30, 2) & 255);
        loadFaults(1, BASE - 1, BASE - 1);
        loadFaults(1, BEHIND, BEHIND);
        storeFaults(1, BASE - 1, BASE - 1);
        storeFaults(1, BEHIND, BEHIND);
        Stage s = store(1, BEHIND - 1, 0x99).fine("a store into the last byte", 4);
        Rig.due("it is stored", s.machine.word(BEHIND - 8), 0x99L << 56);
    }

    // WINDOWS of physical addresses.

    private static void windowEnds() {
        long[][] windows = {{1048576, 4096}, {33554432, 65536}, {201326592, 4194304}, {268435456, 256}, {268439552, 4096}};
        for (long[] w : windows) {
            long first = w[0], behind = w[0] + w[1];
            load(1, first).gives("one byte at the first of a window", 3, 0);
            load(1, behind - 1).gives("the last byte of a window", 3, 0);
            load(8, behind - 8).gives("the last eight bytes of a window", 3, 0);
            store(1, behind - 1, -1).fine("a store into the last byte", 4);
            loadFaults(1, first - 1, first - 1);
            loadFaults(1, behind, behind);
            loadFaults(8, first - 8, first - 8);
            loadFaults(8, behind, behind);
            storeFaults(1, first - 1, first - 1);
            storeFaults(1, behind, behind);
        }
    }

    /** "or in one WINDOW if n divides the address; otherwise ... each byte must be in MEMORY". */
    private static void windowsDivided() {
        loadFaults(2, 33554432 + 1, 33554432 + 1);
        loadFaults(4, 33554432 + 49144 + 2, 33554432 + 49144 + 2);
        loadFaults(8, 33554432 + 49140, 33554432 + 49140);
        storeFaults(4, 268435456 + 1, 268435456 + 1);
        storeFaults(8, 1048576 + 4, 1048576 + 4);
        loadFaults(4, 33554432 + 4094, 33554432 + 4094);
        loadFaults(2, 1048576 - 1, 1048576 - 1);
        storeFaults(8, 33554432 + 65532, 33554432 + 65532);
        Stage s = store(4, 1048576 + 2, ENDING).due("misplaced in THE END", 7, 1048576 + 2);
        Rig.due("it has not ended", s.machine.code(), -1);
    }

    /** "4 bytes each, at offsets that 4 divides, up to 508 (anything else there reads 0, and is lost ..." */
    private static void diskWindow() {
        Stage s = load(4, Rig.BLOCK);
        s.gives("the first register", 3, 1953655158);
        for (int n : new int[] {1, 2, 8}) {
            load(n, Rig.BLOCK).gives("the first register by " + n, 3, 0);
            Stage t = new Stage().with(1, Rig.BLOCK).with(2, 1).run(Rig.store(n, 2, 1, n == 8 ? 112 : 20),
                    Rig.load(4, 3, 1, 16), Rig.load(4, 4, 1, 112)).fine("a write by " + n, 12);
            Rig.due("it is lost, what is offered", t.x(3), 512);
            Rig.due("it is lost, the state", t.x(4), 0);
        }
        for (long offset : new long[] {12, 504, 508, 512, 516, 4092}) {
            load(4, Rig.BLOCK + offset).gives("register " + offset, 3, 0);
            store(4, Rig.BLOCK + offset, -1).fine("a write to " + offset, 4);
        }
        // A register that repeats every 512 bytes would be found there.
        load(4, Rig.BLOCK + 512 + 256).gives("256 is told just once", 3, 0);
    }

    /** "so is, in the windows of part 7, what is not told there for that offset and size: nothing is taken by it". */
    private static void nothingIsTaken() {
        for (int n : new int[] {2, 4, 8}) {
            Stage s = new Stage().with(1, Rig.SERIAL);
            s.rig.feed(new byte[] {65});
            s.machine.load(BoardMachine.INPUT, 0);
            s.run(Rig.i(3, 3, n == 8 ? 3 : 4 + Rig.log(n), 1, 0), Rig.i(3, 4, 4, 1, 0));
            Rig.due("the serial line by " + n, s.x(3), 0);
            Rig.due("the byte is still there", s.x(4), 65);
        }
        int[] sizes = {1, 2, 8};
        for (int n : sizes) {
            // Source 10 waits: bit 1 of register 1 of the serial line was set.
            long claim = n == 8 ? 2097152 : 2097156;
            Stage s = new Stage().with(1, Rig.CONTROLLER).with(2, Rig.CONTROLLER + 8192).with(4, 1 << 10)
                    .with(5, Rig.CONTROLLER + claim).with(6, Rig.SERIAL).with(7, 2).with(8, Rig.CONTROLLER + 2097156)
                    .run(Rig.store(4, 7, 1, 40), Rig.store(4, 4, 2, 0), Rig.store(1, 7, 6, 1),
                            Rig.i(3, 9, n == 8 ? 3 : 4 + Rig.log(n), 5, 0), Rig.load(4, 12, 8, 0));
            Rig.due("the claim by " + n, s.x(9), 0);
            Rig.due("it can still be claimed", s.x(12), 10);
        }
        for (int n : sizes) {
            Stage s = new Stage().with(1, Rig.TIMER).with(2, -1).run(Rig.store(n, 2, 1, 0), Rig.load(4, 3, 1, 0),
                    Rig.store(4, 2, 1, 0), Rig.i(3, 4, n == 8 ? 3 : 4 + Rig.log(n), 1, 0));
            Rig.due("SOFT written by " + n, s.x(3), 0);
            Rig.due("SOFT read by " + n, s.x(4), 0);
        }
        for (int n : new int[] {1, 2}) {
            load(n, Rig.TIMER + 16384).gives("COMPARE by " + n, 3, 0);
            Stage s = new Stage().with(1, Rig.TIMER + 16384).with(2, 5).run(Rig.store(n, 2, 1, 0), Rig.ld(3, 1, 0));
            Rig.due("COMPARE written by " + n, s.x(3), -1);
        }
        for (int n : sizes) {
            for (long offset : new long[] {8, 40, 8192, 8192 + 128, 2097152, 2097152 + 4096}) {
                Stage s = new Stage().with(1, Rig.CONTROLLER + offset).with(2, -1).run(Rig.store(n, 2, 1, 0),
                        Rig.load(4, 3, 1, 0)).fine("the controller by " + n, 8);
                Rig.due("the controller at " + offset + " written by " + n, s.x(3), 0);
            }
        }
        for (int n : new int[] {1, 2}) {
            // Source 10 is served; were it completed, it would wait again.
            Stage s = new Stage().with(1, Rig.CONTROLLER).with(2, Rig.CONTROLLER + 8192).with(4, 1 << 10).with(6, Rig.SERIAL)
                    .with(7, 2).with(8, Rig.CONTROLLER + 2097156).with(9, 10).with(12, Rig.CONTROLLER + 4096)
                    .run(Rig.store(4, 7, 1, 40), Rig.store(4, 4, 2, 0), Rig.store(1, 7, 6, 1), Rig.load(4, 3, 8, 0),
                            Rig.store(n, 9, 8, 0), Rig.load(4, 5, 12, 0), Rig.store(4, 9, 8, 0), Rig.load(4, 13, 12, 0));
            Rig.due("claimed", s.x(3), 10);
            Rig.due("not completed by " + n, s.x(5), 0);
            Rig.due("completed by 4", s.x(13), 1024);
        }
        // With bit 7 of register 3 of the serial line: other windows are not its registers.
        for (long at : new long[] {Rig.END, Rig.END + 1, Rig.TIMER, Rig.TIMER + 1, Rig.CONTROLLER, Rig.CONTROLLER + 4, Rig.BLOCK,
            Rig.BLOCK + 1, Rig.SERIAL + 8, Rig.SERIAL + 255}) {
            Stage s = new Stage().with(1, Rig.SERIAL).with(2, 128).with(4, at).with(6, 0x55).run(Rig.store(1, 2, 1, 3),
                    Rig.store(1, 6, 4, 0), Rig.i(3, 5, 4, 4, 0), Rig.i(3, 7, 4, 1, 0), Rig.i(3, 8, 4, 1, 1));
            s.fine("one byte at " + at, 20);
            Rig.due("it reads 0, and is lost", s.x(5) + s.x(7) + s.x(8), 0);
        }
        load(4, Rig.SERIAL + 8).gives("behind the serial line's registers", 3, 0);
        load(1, Rig.SERIAL + 8).gives("behind the serial line's registers, by 1", 3, 0);
    }

    // THE END.

    private static Stage ends(int n, long offset, long v) {
        return store(n, Rig.END + offset, v);
    }

    private static void theEnd() {
        Rig.due("21845", ends(4, 0, 21845).machine.code(), 0);
        Rig.due("21845 with upper bits", ends(4, 0, 0xFFFF5555L).machine.code(), 0);
        Rig.due("13107", ends(4, 0, 13107).machine.code(), 0);
        Rig.due("13107 with 1", ends(4, 0, 0x13333).machine.code(), 1);
        Rig.due("13107 with the greatest code", ends(4, 0, 0xFFFF3333L).machine.code(), 65535);
        Rig.due("13107 with the highest bit", ends(4, 0, 0x80003333L).machine.code(), 32768);
        Rig.due("bits above 32 do not count", ends(4, 0, 0x7_00013333L).machine.code(), 1);
        for (long v : new long[] {0, 21844, 21846, 13106, 13108, 0x55550000L, 0x33330000L, -1}) {
            Rig.due("another number " + v, ends(4, 0, v).machine.code(), -1);
        }
        for (int n : new int[] {1, 2, 8}) {
            Rig.due("by " + n, ends(n, 0, ENDING).machine.code(), -1);
        }
        Rig.due("another offset", ends(4, 4, ENDING).machine.code(), -1);
        Rig.due("the last offset", ends(4, 4092, ENDING).machine.code(), -1);
        load(4, Rig.END).gives("it reads 0", 3, 0);
        load(8, Rig.END).gives("it reads 0 by 8", 3, 0);
    }

    /** "When the machine has ended, the step goes on to its end, but nothing comes behind it". */
    private static void behindTheEnd() {
        Rig rig = new Rig(2);
        BoardMachine m = rig.machine;
        rig.words(BASE, Rig.lui(1, 0x100), Rig.lui(2, 5), Rig.addi(2, 2, 0x555), Rig.store(4, 2, 1, 0), Rig.NOP);
        m.start();
        m.run(2);
        rig.feed(new byte[] {1, 2});
        m.load(BoardMachine.INPUT, 0);
        // Both come to the store in round 4; rounds 3 brings the first byte, and IN is full then.
        Rig.due("rounds", m.run(10), 2);
        Rig.due("the step went on to its end", m.counter(0), BASE + 16);
        Rig.due("it is counted", m.control(0, 2818), 4);
        Rig.due("the other one made no step", m.counter(1), BASE + 12);
        Rig.due("nor is one counted", m.control(1, 2818), 3);
        Rig.due("the round's cycle is not counted", m.control(0, 2816), 3);
        Rig.due("nor for the other one", m.control(1, 2816), 3);
        Rig.due("one byte came before", m.waiting(), 1);
        Rig.due("no round comes behind it", m.run(10000), 0);
        Rig.due("the counter stays", m.counter(0), BASE + 16);
        // With the queue bit there would be room for the second byte: still it does not come.
        Rig other = new Rig(1);
        other.words(BASE, Rig.lui(3, 0x10000), Rig.addi(4, 0, 1), Rig.store(1, 4, 3, 2), Rig.lui(1, 0x100), Rig.lui(2, 5),
                Rig.addi(2, 2, 0x555), Rig.store(4, 2, 1, 0));
        other.machine.start();
        other.machine.run(6);
        other.feed(new byte[] {1});
        other.machine.load(BoardMachine.INPUT, 0);
        Rig.due("the round of the end", other.machine.run(1), 1);
        Rig.due("no byte comes in it", other.machine.waiting(), 1);
        Rig.due("no breach", other.machine.breaches(), 0);
    }

    // A ROUND.

    private static void oneBehindTheOther() {
        for (int storing = 0; storing < 2; storing++) {
            Rig rig = new Rig(2);
            // In round 3 one of them stores, the other one loads.
            rig.words(BASE, Rig.auipc(1, 0x10), Rig.branch(storing == 0 ? 1 : 0, 10, 0, 8), Rig.store(8, 11, 1, 0),
                    Rig.ld(5, 1, 0));
            rig.machine.start();
            rig.machine.run(3);
            long tree = BASE + 4186112;
            Rig.due("the other one loads", rig.machine.register(1 - storing, 5), storing == 0 ? tree : 0);
        }
    }

    /** Each processor has its own of everything: what one of them does is seen in no other one. */
    private static void eachItsOwn() {
        for (int one = 0; one < 4; one++) {
            Rig rig = new Rig(4);
            rig.longs(Rig.DATA, one, 0x6000, 0x4A, 0x0F1B, 8L << 60 | 5, 0x222, 0x1234);
            int[] words = new int[40];
            int n = 0;
            words[n++] = Rig.auipc(31, 0x10);
            words[n++] = Rig.ld(30, 31, 0);
            words[n++] = Rig.branch(0, 30, 10, 8);
            words[n++] = Rig.jal(0, 0);
            for (int r = 1; r <= 6; r++) {
                words[n++] = Rig.ld(r, 31, 8 * r);
            }
            int[] written = {768, 3, 928, 384, 771, 770, 772, 836, 773, 261, 832, 833, 834, 835, 320, 321, 322, 323, 774, 262,
                944, 951, 2816, 2818};
            int[] from = {1, 2, 3, 4, 5, 6, 5, 5, 6, 6, 6, 6, 6, 6, 6, 6, 6, 6, 2, 2, 6, 6, 6, 6};
            for (int i = 0; i < written.length; i++) {
                words[n++] = Rig.csrrw(0, written[i], from[i]);
            }
            words[n++] = Rig.i(7, 9, 3, 31, 48);
            words[n++] = Rig.WFI;
            rig.words(BASE, words);
            rig.machine.start();
            // One word, at which the others stay, is jumped over.
            rig.machine.run(n - 1);
            for (int h = 0; h < 4; h++) {
                boolean isOne = h == one;
                Rig.due("register 6 of " + h, rig.machine.register(h, 6), isOne ? 0x1234 : 0);
                Rig.due("float 9 of " + h, rig.machine.floating(h, 9), isOne ? 0x1234 : 0);
                Rig.due("mode of " + h, rig.machine.mode(h), isOne ? 7 : 3);
                for (int k : written) {
                    long first = k == 768 ? 10L << 32 : k == 2816 || k == 2818 ? n - 1 : 0;
                    Rig.due("register " + k + " of " + h, rig.machine.control(h, k) != first == isOne);
                }
            }
        }
    }

    private static void cycles() {
        Rig rig = new Rig(2);
        rig.words(BASE, Rig.branch(1, 10, 0, 8), Rig.jal(0, 0), Rig.WFI, Rig.NOP);
        rig.machine.start();
        rig.machine.run(100);
        Rig.due("one waits", rig.machine.mode(1), 7);
        Rig.due("cycles of the one that runs", rig.machine.control(0, 2816), 100);
        Rig.due("cycles of the one that waits", rig.machine.control(1, 2816), 100);
        Rig.due("its instructions", rig.machine.control(1, 2818), 2);
    }

    /** "with every tenth round TIME grows by 1 (rounds in which the machine ended are not counted for that ...)". */
    private static void tenthRounds() {
        Rig rig = new Rig(1);
        BoardMachine m = rig.machine;
        rig.words(BASE, Rig.jal(0, 0));
        m.run(9);
        Rig.due("nine rounds", m.time(), 0);
        m.run(1);
        Rig.due("ten rounds", m.time(), 1);
        m.run(9);
        Rig.due("nineteen", m.time(), 1);
        m.start();
        Rig.due("start does not matter", m.time(), 1);
        m.run(1);
        Rig.due("twenty, whatever start did", m.time(), 2);
        rig.words(BASE, Rig.lui(1, 0x100), Rig.lui(2, 5), Rig.addi(2, 2, 0x555), Rig.store(4, 2, 1, 0));
        m.start();
        Rig.due("it ends in its fourth round", m.run(100), 4);
        rig.words(BASE, Rig.jal(0, 0));
        m.start();
        m.run(6);
        Rig.due("the round of the end was not counted", m.time(), 2);
        m.run(1);
        Rig.due("ten that were", m.time(), 3);
    }

    private static void inputComes() {
        Rig rig = new Rig(1);
        BoardMachine m = rig.machine;
        rig.words(BASE, Rig.lui(1, 0x10000), Rig.NOP, Rig.NOP, Rig.i(3, 2, 4, 1, 0), Rig.NOP);
        rig.feed(new byte[] {11, 12, 13});
        m.load(BoardMachine.INPUT, 0);
        m.start();
        Rig.due("none came yet", m.waiting(), 3);
        m.run(1);
        Rig.due("the first one came with the first round", m.waiting(), 2);
        m.run(2);
        Rig.due("no room for a second", m.waiting(), 2);
        m.run(1);
        Rig.due("the first one is taken", m.register(0, 2), 11);
        Rig.due("and the second comes in the same round", m.waiting(), 1);
        Rig.due("no overrun", rig.peek(Rig.SERIAL + 5, 1), 97);
    }

    // A STEP.

    private static void waits() {
        Stage s = new Stage().run(Rig.WFI, Rig.addi(5, 0, 1));
        long instructions = s.control(2818);
        Rig.due("it waits", s.machine.mode(0), 7);
        Rig.due("behind the word", s.machine.counter(0), CODE + 4);
        s.more(1000);
        Rig.due("nothing happens", s.x(5) + s.machine.counter(0), CODE + 4);
        Rig.due("no instruction is counted", s.control(2818), instructions);
        // Pending, but not enabled.
        s = new Stage().withControl(836, 2).run(Rig.WFI, Rig.addi(5, 0, 1));
        Rig.due("pending alone", s.machine.mode(0), 7);
        // Enabled, but not pending.
        s = new Stage().withControl(772, 2).run(Rig.WFI, Rig.addi(5, 0, 1));
        Rig.due("enabled alone", s.machine.mode(0), 7);
        // Both, but not to be taken: MIE is 0.
        s = new Stage().withControl(772, 2).withControl(836, 2).run(Rig.WFI, Rig.addi(5, 0, 1));
        Rig.due("both, not to be taken", s.machine.mode(0), 3);
        Rig.due("it goes on", s.x(5), 1);
        // Both, delegated, in mode 1 without SIE.
        s = new Stage().inMode(1).withControl(771, 2).withControl(772, 2).withControl(836, 2)
                .run(Rig.WFI, Rig.addi(5, 0, 1));
        Rig.due("delegated, not to be taken", s.machine.mode(0), 1);
        Rig.due("it goes on", s.x(5), 1);
    }

    /** The timer wakes it: the trap's place is behind the word that waits. */
    private static void wokenByTheTimer() {
        Stage s = new Stage().with(1, Rig.TIMER + 16384).with(2, 10).withControl(772, 128).withStatus(MIE)
                .withControl(773, 0x9000).run(Rig.store(8, 2, 1, 0), Rig.WFI, Rig.addi(5, 0, 1));
        Rig.due("it waits", s.machine.mode(0), 7);
        while (s.machine.time() < 10) {
            s.more(1);
            Rig.due("it waits up to TIME 10", s.machine.mode(0), 7);
        }
        long instructions = s.control(2818);
        s.more(1);
        Rig.due("the trap", s.control(834), 7 | 1L << 63);
        Rig.due("value", s.control(835), 0);
        Rig.due("place", s.control(833), CODE + 8);
        Rig.due("mode", s.machine.mode(0), 3);
        Rig.due("goes on", s.machine.counter(0), 0x9000);
        Rig.due("nothing was run", s.control(2818) + s.x(5), instructions);
    }

    /**
     * "lines as part 7 has them now": in its seventh round one processor stores a number of 1 .. 8 bytes, by which a line
     * of the other one goes on; the first processor's step comes before, the second one's behind that of the other.
     */
    private static void linesNow(String what, long at, int n, int v, int line, boolean isWaiting) {
        for (int storing = 0; storing < 2; storing++) {
            Rig rig = new Rig(2);
            int other = 1 - storing;
            rig.poke(Rig.CONTROLLER + 4, 4, 1);
            rig.poke(Rig.CONTROLLER + 40, 4, 1);
            rig.poke(Rig.CONTROLLER + 8192 + 256 * other, 4, -1);
            rig.poke(Rig.BLOCK + 112, 4, 4);
            rig.poke(Rig.BLOCK + 68, 4, 1);
            rig.longs(Rig.DATA, at, v, 1L << line);
            rig.words(BASE, Rig.auipc(31, 0x10), Rig.ld(1, 31, 0), Rig.ld(2, 31, 8), Rig.ld(3, 31, 16), Rig.csrrw(0, 772, 3),
                    Rig.branch(storing == 0 ? 1 : 0, 10, 0, 12), Rig.store(n, 2, 1, storing == 0 && line == 3 ? 4 : 0), Rig.NOP,
                    isWaiting ? Rig.WFI : Rig.i(115, 0, 6, 8, 768), Rig.addi(5, 5, 1), Rig.addi(5, 5, 1));
            // The one that does not store comes to the ninth word in its seventh round: it waits there, or lets interrupts in.
            rig.machine.start();
            rig.machine.run(6);
            Rig.due(what + ": off", rig.machine.control(other, 836), 0);
            rig.machine.run(1);
            Rig.due(what + ": on", rig.machine.control(other, 836), 1L << line);
            rig.machine.run(1);
            if (isWaiting) {
                Rig.due(what + ": it waits no more", rig.machine.mode(other), 3);
                Rig.due(what + ": it went on", rig.machine.register(other, 5), 1);
            } else {
                Rig.due(what + ": the trap", rig.machine.control(other, 834), line | 1L << 63);
                Rig.due(what + ": its place", rig.machine.control(other, 833), BASE + 36);
            }
        }
    }

    /** The one that is interrupted has let interrupts in before: in the very round, or in the next, it takes it. */
    private static void takenNow(String what, long at, int n, int v, int line) {
        for (int storing = 0; storing < 2; storing++) {
            Rig rig = new Rig(2);
            int other = 1 - storing;
            rig.poke(Rig.CONTROLLER + 4, 4, 1);
            rig.poke(Rig.CONTROLLER + 40, 4, 1);
            rig.poke(Rig.CONTROLLER + 8192 + 256 * other, 4, -1);
            rig.poke(Rig.BLOCK + 112, 4, 4);
            rig.poke(Rig.BLOCK + 68, 4, 1);
            rig.longs(Rig.DATA, at + (line == 3 ? 4 * other : 0), v, 1L << line, 8);
            rig.words(BASE, Rig.auipc(31, 0x10), Rig.ld(1, 31, 0), Rig.ld(2, 31, 8), Rig.ld(3, 31, 16), Rig.ld(4, 31, 24),
                    Rig.branch(storing == 0 ? 1 : 0, 10, 0, 20), Rig.NOP, Rig.NOP, Rig.store(n, 2, 1, 0), Rig.NOP,
                    Rig.csrrw(0, 772, 3), Rig.csrrw(0, 768, 4), Rig.addi(5, 5, 1), Rig.addi(5, 5, 1), Rig.addi(5, 5, 1));
            // In round 9 one of them stores, while the other one comes to the first word that counts.
            rig.machine.start();
            rig.machine.run(9);
            boolean isFirst = other == 0;
            Rig.due(what + ": in the same round, if it comes behind", rig.machine.control(other, 834), isFirst ? 0 : line | 1L << 63);
            rig.machine.run(isFirst ? 1 : 0);
            Rig.due(what + ": in the next one at the latest", rig.machine.control(other, 834), line | 1L << 63);
            Rig.due(what + ": its place", rig.machine.control(other, 833), BASE + (isFirst ? 52 : 48));
            Rig.due(what + ": what it did before", rig.machine.register(other, 5), isFirst ? 1 : 0);
        }
    }

    private static void lines() {
        for (int way = 0; way < 2; way++) {
            linesNow("SOFT", Rig.TIMER, 4, 1, 3, way == 1);
            linesNow("TIME", Rig.TIMER + 49144, 8, -1, 7, way == 1);
            linesNow("the disk", Rig.BLOCK + 80, 4, 0, 11, way == 1);
            linesNow("the serial line", Rig.SERIAL + 1, 1, 2, 11, way == 1);
        }
        takenNow("SOFT", Rig.TIMER, 4, 1, 3);
        takenNow("TIME", Rig.TIMER + 49144, 8, -1, 7);
        takenNow("the disk", Rig.BLOCK + 80, 4, 0, 11);
        takenNow("the serial line", Rig.SERIAL + 1, 1, 2, 11);
    }

    private static void interrupted() {
        Stage s = new Stage().with(1, Rig.TIMER).with(2, 1).withControl(772, 8).withControl(835, 99).withStatus(MIE)
                .run(Rig.store(4, 2, 1, 0), Rig.addi(5, 0, 1));
        Rig.due("cause", s.control(834), 3 | 1L << 63);
        Rig.due("the value is 0", s.control(835), 0);
        Rig.due("the counter is the place", s.control(833), CODE + 4);
        Rig.due("the next word was not run", s.x(5), 0);
        // An interrupt comes before a fault of the fetch.
        s = new Stage().at(8).withControl(772, 2).withControl(836, 2).inMode(1).ready().more(1);
        Rig.due("interrupt before fetch", s.control(834), 1 | 1L << 63);
        Rig.due("place", s.control(833), 8);
    }

    // FETCH.

    private static void fetches() {
        new Stage().at(BASE - 2).ready().more(1).due("before memory", 1, BASE - 2);
        new Stage().at(BEHIND).ready().more(1).due("behind memory", 1, BEHIND);
        new Stage().at(0).ready().more(1).due("at 0", 1, 0);
        new Stage().at(-2).ready().more(1).due("at the last address", 1, -2);
        new Stage().at(1L << 56).ready().more(1).due("at 2^56", 1, 1L << 56);
        for (long window : new long[] {Rig.END, Rig.TIMER, Rig.CONTROLLER, Rig.SERIAL, Rig.BLOCK}) {
            new Stage().at(window).ready().more(1).due("in a window", 1, window);
        }
        // A form of 16 bits fits into the last two bytes; then the counter is behind memory.
        Stage s = new Stage().at(BEHIND - 2).memory(BEHIND - 8, 0x0285000000000000L).ready().more(1);
        Rig.due("the last half runs", s.x(5), 1);
        Rig.due("counter", s.machine.counter(0), BEHIND);
        s.more(1).due("then it is behind memory", 1, BEHIND, BEHIND);
        new Stage().at(BEHIND - 2).memory(BEHIND - 8, 0x0013000000000000L).ready().more(1)
                .due("a word of which half is there", 1, BEHIND, BEHIND - 2);
        new Stage().at(BEHIND - 4).memory(BEHIND - 8, 0x0010029300000000L).ready().more(1).fine("the last word runs", 4);
        // The second half is in another page, or region.
        Stage t = new Stage().tables(1).page(Stage.PAGE, Stage.entry(DATA, 0x0F)).memory(DATA + 4088, 0x0013L << 48)
                .at(Stage.PAGE + 4094).ready().more(1);
        t.due("the second half's page is not there", 12, Stage.PAGE + 4096, Stage.PAGE + 4094);
        Rig.due("the first one's mark stays", t.machine.word(Stage.leaf(Stage.PAGE)), Stage.entry(DATA, 0x4F));
        new Stage().inMode(1).withControl(944, DATA + 2 >> 2).withControl(945, -1).withControl(928, 0x1F09)
                .at(DATA - 2).memory(DATA - 8, 0x0013L << 48).ready().more(1)
                .due("the first half is not let through", 1, DATA - 2);
        new Stage().inMode(1).withControl(944, DATA >> 2).withControl(945, DATA + 4 >> 2).withControl(946, -1)
                .withControl(928, 0x1F090FL).at(DATA - 2).memory(DATA - 8, 0x0013L << 48).ready().more(1)
                .due("the second half is not let through", 1, DATA, DATA - 2);
    }

    /** A word over two pages that are both there, and far apart in memory. */
    private static void fetchOverPages() {
        int word = Rig.addi(5, 0, 0x123);
        Stage s = new Stage().tables(1).page(Stage.PAGE + 4096, Stage.entry(DATA + 0x5000, 0xCF))
                .memory(DATA + 4088, (long) word << 48).memory(DATA + 0x5000, word >>> 16).at(Stage.PAGE + 4094).ready().more(1);
        s.fine("a word over two pages", 4);
        Rig.due("it is run", s.x(5), 0x123);
    }

    /** "its value is the half, or the word of both, as a number from 0 on". */
    private static void illegalValues() {
        new Stage().run(-1).due("the greatest word", 2, 0xFFFFFFFFL);
        new Stage().run(0x80000003 | 7 << 12).due("a word with its highest bit", 2, 0x80007003L);
        new Stage().runHalves(0).due("the half 0", 2, 0);
        new Stage().runHalves(0x9C41).due("a half with its highest bit", 2, 0x9C41);
        new Stage().runHalves(0x8000).due("the half 32768", 2, 0x8000);
        new Stage().withoutFloats().runHalves(0x2000).due("a half whose word is illegal", 2, 0x2000);
        Stage s = new Stage().run(-1);
        Rig.due("not counted", s.control(2818), new Stage().run(Rig.ECALL).control(2818));
        Rig.due("one that is done is", new Stage().run(Rig.NOP).control(2818), s.control(2818) + 1);
    }

    public static void main(String[] args) {
        memoryEnds();
        windowEnds();
        windowsDivided();
        diskWindow();
        nothingIsTaken();
        theEnd();
        behindTheEnd();
        oneBehindTheOther();
        eachItsOwn();
        cycles();
        tenthRounds();
        inputComes();
        waits();
        wokenByTheTimer();
        lines();
        interrupted();
        fetches();
        fetchOverPages();
        illegalValues();
        Rig.finish("EdgesMachineTest");
    }
}
