/** THE MACHINE: DATA, LOAD, STORE, ATOMIC, FLOAT and CONTROL, each sentence that names a boundary case. */
public final class EdgesDataTest {
    private static final long BASE = Rig.BASE, BEHIND = BASE + 4194304, CODE = Stage.CODE, DATA = Stage.DATA;
    private static final long PAGE = Stage.PAGE, EDGE = PAGE + 4096;
    private static final long MPRV = 1 << 17, TVM = 1 << 20, TW = 1 << 21, TSR = 1 << 22;
    private static final long FULL = 0x8877665544332211L;

    // "the data mode: MPP if MPRV is 1, else the mode".

    private static void dataMode() {
        Stage s = new Stage().closed().with(1, DATA).withStatus(MPRV).run(Rig.ld(3, 1, 0));
        s.due("as the user, by MPRV, where no region lets it through", 5, DATA);
        s = new Stage().closed().with(1, DATA).withStatus(MPRV | 1 << 11).run(Rig.store(8, 1, 1, 0));
        s.due("as the supervisor, by MPRV", 7, DATA);
        new Stage().closed().memory(DATA, 5).with(1, DATA).withStatus(MPRV | 3 << 11).run(Rig.ld(3, 1, 0))
                .gives("as the machine, by MPRV", 3, 5);
        new Stage().closed().memory(DATA, 5).with(1, DATA).withStatus(0).run(Rig.ld(3, 1, 0))
                .gives("MPP without MPRV", 3, 5);
        // A fetch is in the mode itself, whatever MPRV says: the word that loads was fetched.
        new Stage().closed().withStatus(MPRV).run(Rig.addi(3, 0, 7)).gives("a fetch with MPRV", 3, 7);
    }

    // "If they lie within one page, they are found as a whole; otherwise byte by byte, in order".

    private static void withinOnePage() {
        for (int n : new int[] {2, 4, 8}) {
            new Stage().tables(1).memory(DATA + 4088, FULL).with(1, EDGE - n).run(load(n))
                    .gives("the last " + n + " of a page", 3, FULL >>> 64 - 8 * n);
            new Stage().tables(1).with(1, EDGE - n + 1).run(load(n)).due("one byte more of " + n, 13, EDGE);
            new Stage().tables(1).with(1, EDGE - n + 1).run(Rig.store(n, 1, 1, 0)).due("stored, of " + n, 15, EDGE);
            new Stage().tables(1).page(EDGE, Stage.entry(DATA, 0xCF)).page(PAGE, 0).with(1, EDGE - 1).run(load(n))
                    .due("the first byte's page is not there, of " + n, 13, EDGE - 1);
        }
    }

    private static int load(int n) {
        return Rig.i(3, 3, n == 8 ? 3 : 4 + Rig.log(n), 1, 0);
    }

    /** Every kind of data goes by the data mode, and a fetch does not: the table is the user's, the counter the machine's. */
    private static void everyKind() {
        int[] words = {Rig.ld(3, 1, 0), Rig.store(8, 2, 1, 0), Rig.amo(2, 8, 3, 1, 0), Rig.amo(3, 8, 3, 1, 2),
            Rig.amo(0, 8, 3, 1, 2), Rig.i(7, 1, 3, 1, 0), Rig.s(39, 3, 1, 2, 0)};
        for (int i = 0; i < words.length; i++) {
            boolean loads = i == 0 || i == 2 || i == 5;
            for (int mode : new int[] {0, 1, 3}) {
                for (long bits : new long[] {0xC7, 0xD7}) {
                    Stage s = new Stage().tables(0).inMode(3).withStatus(MPRV | (long) mode << 11).page(PAGE, Stage.entry(DATA, bits))
                            .with(1, PAGE).with(2, 7).run(words[i]);
                    String what = "kind " + i + " in the data mode " + mode + " with " + bits;
                    boolean isUsers = bits == 0xD7;
                    if (mode == 3) {
                        s.due(what + ": no table", loads ? 5 : 7, PAGE);
                    } else if (isUsers == (mode == 0)) {
                        s.fine(what, 4);
                    } else {
                        s.due(what + ": another one's page", loads ? 13 : 15, PAGE);
                    }
                }
                // The mode 3 itself, without MPRV, whatever MPP is.
                new Stage().tables(0).inMode(3).withStatus((long) mode << 11).with(1, DATA).with(2, 7).run(words[i])
                        .fine("kind " + i + " without MPRV", 4);
            }
        }
    }

    /** Two pages that are far apart in memory. */
    private static void overTwoPages() {
        Stage s = new Stage().tables(1).page(EDGE, Stage.entry(DATA + 0x5000, 0xCF)).memory(DATA + 4088, FULL)
                .memory(DATA + 0x5000, ~FULL).with(1, EDGE - 3).run(Rig.ld(3, 1, 0));
        s.gives("a load over two pages", 3, ~FULL << 24 | FULL >>> 40);
        s = new Stage().tables(1).page(EDGE, Stage.entry(DATA + 0x5000, 0xCF)).memory(DATA + 4088, FULL)
                .memory(DATA + 0x5000, ~FULL).with(1, EDGE - 3).with(2, 0x0102030405060708L).run(Rig.store(8, 2, 1, 0));
        s.fine("a store over two pages", 4);
        Rig.due("its first part", s.machine.word(DATA + 4088), 0x0607085544332211L);
        Rig.due("its second part", s.machine.word(DATA + 0x5000), ~FULL & ~0xFFFFFFFFFFL | 0x0102030405L);
        s = new Stage().tables(1).page(EDGE, Stage.entry(DATA + 0x5000, 0xCF)).memory(DATA + 4088, FULL)
                .memory(DATA + 0x5000, ~FULL).with(1, EDGE - 1).run(Rig.load(2, 3, 1, 0));
        s.gives("two bytes, with sign", 3, (short) ((~FULL & 255) << 8 | FULL >>> 56));
        // What stands in memory behind the first page, and before the second one, is no part of it.
        for (long beside : new long[] {0, -1}) {
            for (int n : new int[] {2, 4, 8}) {
                for (int first = 1; first < n; first++) {
                    s = new Stage().tables(1).page(EDGE, Stage.entry(DATA + 0x5000, 0xCF)).memory(DATA + 4088, FULL, beside)
                            .memory(DATA + 0x4FF8, beside, ~FULL).with(1, EDGE - first).with(2, ~beside).run(load(n));
                    long want = FULL >>> 64 - 8 * first | ~FULL << 8 * first;
                    s.gives(n + " bytes, " + first + " of them in the first page", 3, n == 8 ? want : want & (1L << 8 * n) - 1);
                    s.words(s.machine.counter(0), Rig.store(n, 2, 1, 0)).more(1).fine("stored", 8);
                    Rig.due("behind the first page", s.machine.word(DATA + 4096), beside);
                    Rig.due("before the second page", s.machine.word(DATA + 0x4FF8), beside);
                    Rig.due("in the first page", s.machine.word(DATA + 4088),
                            FULL & -1L >>> 8 * first | ~beside << 64 - 8 * first);
                    long mask = (1L << 8 * (n - first)) - 1;
                    Rig.due("in the second page", s.machine.word(DATA + 0x5000), ~FULL & ~mask | ~beside & mask);
                }
            }
        }
    }

    /** Each size at each of sixteen places: the bytes that are stored, and none beside them. */
    private static void besideStores() {
        Rig rig = new Rig(1);
        for (int n = 1; n <= 8; n *= 2) {
            for (int place = 0; place < 16; place++) {
                for (long v : new long[] {0x0102030405060708L, 0xF1F2F3F4F5F6F7F8L, 0, -1}) {
                    for (long fill : new long[] {0, -1, FULL}) {
                        long[] words = {fill, fill, fill, fill};
                        rig.longs(DATA, words);
                        rig.poke(DATA + place, n, v);
                        for (int i = place; i < place + n; i++) {
                            words[i / 8] = words[i / 8] & ~(255L << 8 * (i % 8)) | (v >>> 8 * (i - place) & 255) << 8 * (i % 8);
                        }
                        for (int i = 0; i < 4; i++) {
                            Rig.due(n + " bytes at " + place + ", word " + i, rig.machine.word(DATA + 8 * i), words[i]);
                        }
                    }
                }
            }
        }
    }

    /** "All is found before anything is loaded, stored, read or written"; marks stay. */
    private static void allIsFoundFirst() {
        Stage s = new Stage().tables(1).page(PAGE, Stage.entry(DATA, 0x0F)).memory(DATA + 4088, FULL).with(1, EDGE - 4)
                .run(Rig.store(8, 1, 1, 0));
        s.due("the second page is not there", 15, EDGE);
        Rig.due("nothing was stored", s.machine.word(DATA + 4088), FULL);
        Rig.due("the marks stay", s.machine.word(Stage.leaf(PAGE)), Stage.entry(DATA, 0xCF));
        s = new Stage().memory(BEHIND - 8, FULL).with(1, BEHIND - 4).with(2, -1).run(Rig.store(8, 2, 1, 0));
        s.due("the second half is behind memory", 7, BEHIND);
        Rig.due("nothing was stored", s.machine.word(BEHIND - 8), FULL);
        s = new Stage().with(1, BASE - 4).with(2, -1).run(Rig.store(8, 2, 1, 0));
        s.due("the first half is before memory", 7, BASE - 4);
        Rig.due("nothing was stored", s.machine.word(BASE) & 0xFFFFFFFFL, Rig.lui(30, 2));
        new Stage().with(1, BEHIND - 1).run(load(2)).due("one of two is behind memory", 5, BEHIND);
        new Stage().with(1, BASE - 1).run(load(8)).due("one of eight is before memory", 5, BASE - 1);
        // A byte that is found in no memory counts only when all are found: the page fault comes first.
        new Stage().tables(1).page(PAGE, Stage.entry(0x3000, 0xCF)).with(1, EDGE - 4).run(load(8))
                .due("no memory, and then no page", 13, EDGE);
        new Stage().tables(1).page(PAGE, Stage.entry(0x3000, 0xCF)).page(EDGE, Stage.entry(DATA, 0xCF)).with(1, EDGE - 4)
                .run(load(8)).due("no memory, and then a page", 5, EDGE - 4);
        new Stage().tables(1).page(EDGE, Stage.entry(0x3000, 0xCF)).with(1, EDGE - 4).run(load(8))
                .due("a page, and then no memory", 5, EDGE);
        new Stage().tables(1).page(EDGE, Stage.entry(0x3000, 0xCF)).with(1, EDGE - 4).run(Rig.store(8, 1, 1, 0))
                .due("a page, and then no memory, stored", 7, EDGE);
    }

    /** "wherever bytes were found one by one, each byte must be in MEMORY": a window is none, even where n divides. */
    private static void windowsByBytes() {
        new Stage().tables(1).page(EDGE, Stage.entry(Rig.TIMER, 0xCF)).with(1, EDGE - 4).run(load(8))
                .due("memory, and then a window", 5, EDGE);
        new Stage().tables(1).page(PAGE, Stage.entry(Rig.TIMER, 0xCF)).with(1, EDGE - 4).run(load(8))
                .due("a window, and then no page", 13, EDGE);
        new Stage().tables(1).page(PAGE, Stage.entry(Rig.BLOCK, 0xCF)).with(1, PAGE).run(Rig.load(4, 3, 1, 0))
                .gives("a window as a whole, by a table", 3, 1953655158);
        new Stage().tables(1).page(PAGE, Stage.entry(Rig.BLOCK, 0xCF)).with(1, PAGE + 2).run(load(4))
                .due("a window, where 4 does not divide", 5, PAGE + 2);
        new Stage().tables(1).page(PAGE, Stage.entry(0x3000, 0xCF)).with(1, PAGE + 1).run(load(4))
                .due("nothing as a whole: the address of the data", 5, PAGE + 1);
    }

    /** Addresses wrap: the last byte of all, and then the first. */
    private static void roundTheEnd() {
        new Stage().with(1, -1).run(load(1)).due("the last byte of all", 5, -1);
        new Stage().with(1, -4).run(load(8)).due("round the end of all", 5, -4);
        new Stage().tables(1).memory(Stage.TABLES + 8 * 511, Stage.entry(BASE, 0xCF)).page(0, Stage.entry(DATA, 0xCF))
                .memory(DATA, FULL).memory(BASE + (1 << 22) - 8, ~FULL).with(1, -4).run(load(8))
                .due("round the end, the last gigabyte being too large for memory", 5, -4);
        Stage s = new Stage().tables(1).memory(Stage.TABLES + 8 * 511, Stage.entry(Stage.TABLES + 0x3000, 1))
                .memory(Stage.TABLES + 0x3000 + 8 * 511, Stage.entry(Stage.TABLES + 0x4000, 1))
                .memory(Stage.TABLES + 0x4000 + 8 * 511, Stage.entry(DATA, 0xCF)).page(0, Stage.entry(DATA + 0x5000, 0xCF))
                .memory(DATA + 4088, FULL).memory(DATA + 0x5000, ~FULL).with(1, -4).run(load(8));
        s.gives("round the end, both pages being there", 3, ~FULL << 32 | FULL >>> 32);
        new Stage().with(1, Long.MAX_VALUE).run(load(1)).due("the greatest long", 5, Long.MAX_VALUE);
        new Stage().with(1, Long.MIN_VALUE).run(load(1)).due("the least long", 5, Long.MIN_VALUE);
        new Stage().with(1, BASE).run(Rig.i(3, 3, 3, 1, -2048)).due("an offset below memory", 5, BASE - 2048);
        new Stage().with(1, 1L << 56 | DATA).run(load(8)).due("bit 56", 5, 1L << 56 | DATA);
        // All bytes are found before one of them must be in memory: the fifth is not found.
        new Stage().with(1, (1L << 56) - 4).run(load(8)).due("over the last address with bits 56..63 of 0", 5, 1L << 56);
        new Stage().with(1, (1L << 56) - 4).run(Rig.store(8, 1, 1, 0)).due("a store over it", 7, 1L << 56);
        new Stage().with(1, (1L << 56) - 8).run(load(8)).due("just before it", 5, (1L << 56) - 8);
    }

    // "LOAD: the data, finished with them. STORE: the operand's lowest bytes".

    private static void loadsAndStores() {
        int[] sizes = {1, 2, 4, 8};
        long[] signed = {(byte) 0x88, (short) 0x9988, 0xFFFFFFFFBBAA9988L, 0x8877FFEEBBAA9988L};
        long[] bare = {0x88, 0x9988, 0xBBAA9988L};
        for (int i = 0; i < 4; i++) {
            new Stage().memory(DATA, signed[3]).with(1, DATA).run(Rig.i(3, 3, i, 1, 0)).gives("with sign", 3, signed[i]);
            Stage s = new Stage().with(1, DATA).memory(DATA, -1).with(2, 0x0102030405060708L).run(Rig.store(sizes[i], 2, 1, 0));
            long mask = i == 3 ? 0 : -1L << 8 * sizes[i];
            Rig.due("lowest bytes", s.machine.word(DATA), mask | 0x0102030405060708L & ~mask);
        }
        for (int i = 0; i < 3; i++) {
            new Stage().memory(DATA, signed[3]).with(1, DATA).run(Rig.i(3, 3, 4 + i, 1, 0)).gives("with zeros", 3, bare[i]);
        }
        // Data that no size divides are data as well, in MEMORY.
        new Stage().memory(DATA, FULL, ~FULL).with(1, DATA + 1).run(load(8)).gives("misplaced", 3, ~FULL << 56 | FULL >>> 8);
        new Stage().with(1, 0).with(3, 77).run(Rig.ld(0, 1, 0)).due("a load into register 0 is found too", 5, 0);
    }

    // ATOMIC.

    private static void atomics() {
        new Stage().with(1, DATA + 4).run(Rig.amo(2, 8, 3, 1, 0)).due("4 for sort 2", 4, DATA + 4);
        new Stage().with(1, DATA + 4).run(Rig.amo(3, 8, 3, 1, 0)).due("6 for sort 3", 6, DATA + 4);
        new Stage().with(1, DATA + 2).run(Rig.amo(0, 4, 3, 1, 0)).due("6 for others", 6, DATA + 2);
        new Stage().with(1, DATA + 4).run(Rig.amo(0, 4, 3, 1, 0)).fine("4 divides", 4);
        new Stage().with(1, 1).run(Rig.amo(2, 4, 3, 1, 0)).due("before it is found", 4, 1);
        new Stage().with(1, -1).run(Rig.amo(1, 4, 3, 1, 0)).due("before it is found, far away", 6, -1);
        new Stage().tables(1).with(1, EDGE).run(Rig.amo(2, 8, 3, 1, 0)).due("found for a load", 13, EDGE);
        new Stage().tables(1).with(1, EDGE).run(Rig.amo(3, 8, 3, 1, 0)).due("found for a store", 15, EDGE);
        new Stage().tables(1).with(1, EDGE).run(Rig.amo(0, 8, 3, 1, 0)).due("found for a store", 15, EDGE);
        Stage s = new Stage().tables(1).page(PAGE, Stage.entry(DATA, 0x43)).with(1, PAGE).run(Rig.amo(2, 8, 3, 1, 0));
        s.fine("to reserve what may only be read", 4);
        s = new Stage().tables(1).page(PAGE, Stage.entry(DATA, 0x43)).with(1, PAGE).run(Rig.amo(28, 4, 3, 1, 0));
        s.due("another one there", 15, PAGE);
        // Marks: A for sort 2, both for all others, also for a conditional store that stores nothing.
        for (int sort : new int[] {0, 1, 2, 3, 4, 8, 12, 16, 20, 24, 28}) {
            s = new Stage().tables(1).page(PAGE, Stage.entry(DATA, 0x0F)).memory(DATA, 62).with(1, PAGE)
                    .run(Rig.amo(sort, 8, 3, 1, 0)).fine("marks of sort " + sort, 4);
            Rig.due("the entry by sort " + sort, s.machine.word(Stage.leaf(PAGE)), Stage.entry(DATA, sort == 2 ? 0x4F : 0xCF));
            Rig.due("what sort " + sort + " answers", s.x(3), sort == 3 ? 1 : 62);
        }
        for (long window : new long[] {Rig.END, Rig.TIMER + 16384, Rig.CONTROLLER, Rig.SERIAL, Rig.BLOCK}) {
            new Stage().with(1, window).run(Rig.amo(2, 4, 3, 1, 0)).due("a window is no memory", 5, window);
            new Stage().with(1, window).run(Rig.amo(1, 4, 3, 1, 0)).due("a window is no memory", 7, window);
            new Stage().with(1, window).run(Rig.amo(3, 4, 3, 1, 0)).due("a window is no memory", 7, window);
        }
        s = new Stage().with(1, Rig.END).with(2, 0x5555).run(Rig.amo(1, 4, 3, 1, 2));
        Rig.due("nothing was written", s.machine.code(), -1);
        new Stage().with(1, BEHIND - 8).run(Rig.amo(0, 8, 3, 1, 0)).fine("the last eight bytes", 4);
        new Stage().with(1, BEHIND).run(Rig.amo(0, 8, 3, 1, 0)).due("behind them", 7, BEHIND);
    }

    // FLOAT.

    private static final long ONE = 0x3FF0000000000000L, SIGNALING = 0x7FF0000000000001L;

    private static void floats() {
        new Stage().withoutFloats().with(1, DATA).run(Rig.i(7, 1, 3, 1, 0)).due("a load with FS 0", 2, Rig.i(7, 1, 3, 1, 0));
        new Stage().withoutFloats().with(1, 1).run(Rig.i(7, 1, 3, 1, 0)).due("before it is found", 2, Rig.i(7, 1, 3, 1, 0));
        new Stage().withoutFloats().with(1, DATA).run(Rig.s(39, 3, 1, 1, 0)).due("a store", 2, Rig.s(39, 3, 1, 1, 0));
        new Stage().withoutFloats().run(Rig.r(83, 1, 0, 1, 1, 1)).due("a sum", 2, Rig.r(83, 1, 0, 1, 1, 1));
        new Stage().with(1, 8).run(Rig.i(7, 1, 3, 1, 0)).due("a load that is not there", 5, 8);
        Rig.due("FS stays", new Stage().with(1, 8).run(Rig.i(7, 1, 3, 1, 0)).floatState(), 1);
        new Stage().with(1, 8).run(Rig.s(39, 2, 1, 1, 0)).due("a store that is not there", 7, 8);
        Stage s = new Stage().memory(DATA, FULL).with(1, DATA).run(Rig.i(7, 1, 2, 1, 0));
        Rig.due("4 bytes: boxed", s.f(1), 0xFFFFFFFF44332211L);
        Rig.due("FS becomes 3", s.floatState(), 3);
        s = new Stage().withStatus(0x4000).memory(DATA, FULL).with(1, DATA + 4).run(Rig.i(7, 0, 2, 1, 0));
        Rig.due("register 0 of part 3 is one like others", s.f(0), 0xFFFFFFFF88776655L);
        Rig.due("FS becomes 3 from 2", s.floatState(), 3);
        s = new Stage().memory(DATA, -1).withFloat(1, FULL).with(1, DATA).run(Rig.s(39, 2, 1, 1, 0));
        Rig.due("the lowest bytes, boxed or not", s.machine.word(DATA), 0xFFFFFFFF44332211L);
        Rig.due("FS stays behind a store", s.floatState(), 1);
    }

    /** A LOAD, or a STORE, of DATA, with all faults and marks of these; behind a fault nothing has changed. */
    private static void floatFaults() {
        for (int log = 2; log <= 3; log++) {
            int load = Rig.i(7, 1, log, 1, 0), store = Rig.s(39, log, 1, 1, 0), n = 1 << log;
            for (int w : new int[] {load, store}) {
                boolean loads = w == load;
                String what = (loads ? "load of " : "store of ") + n;
                faulted(what + ": a page that is not there", new Stage().tables(1), EDGE, w, loads ? 13 : 15, EDGE);
                faulted(what + ": over its edge", new Stage().tables(1), EDGE - 1, w, loads ? 13 : 15, EDGE);
                faulted(what + ": a page without rights", new Stage().tables(1).page(PAGE, Stage.entry(DATA, 0xC9)), PAGE, w,
                        loads ? 13 : 15, PAGE);
                faulted(what + ": no memory", new Stage().tables(1).page(PAGE, Stage.entry(0x3000, 0xC7)), PAGE + 8, w,
                        loads ? 5 : 7, PAGE + 8);
                faulted(what + ": a region without rights", new Stage().withStatus(MPRV).withControl(944, DATA >> 2)
                        .withControl(951, -1).withControl(928, 0x1FL << 56 | 0x1C), DATA, w, loads ? 5 : 7, DATA);
                Stage s = new Stage().tables(1).page(PAGE, Stage.entry(DATA, 7)).memory(DATA, FULL).withFloat(1, ~FULL)
                        .with(1, PAGE).run(w).fine(what + " is marked", 4);
                Rig.due(what + ": the entry", s.machine.word(Stage.leaf(PAGE)), Stage.entry(DATA, loads ? 0x47 : 0xC7));
                s = new Stage().tables(1).page(EDGE, Stage.entry(DATA + 0x5000, 0xCF)).memory(DATA + 4088, FULL)
                        .memory(DATA + 0x5000, ~FULL).withFloat(1, 0x0102030405060708L).with(1, EDGE - 3).run(w);
                s.fine(what + " over two pages", 4);
                long both = ~FULL << 24 | FULL >>> 40;
                Rig.due(what + " over two pages: the register", s.f(1), !loads ? 0x0102030405060708L
                        : n == 8 ? both : both & 0xFFFFFFFFL | -1L << 32);
                Rig.due(what + " over two pages: the first part", s.machine.word(DATA + 4088),
                        loads ? FULL : 0x0607085544332211L);
                Rig.due(what + " over two pages: the second part", s.machine.word(DATA + 0x5000), loads ? ~FULL
                        : n == 8 ? ~FULL & ~0xFFFFFFFFFFL | 0x0102030405L : ~FULL & ~0xFFL | 5);
            }
            faulted("a store into a page that is read", new Stage().tables(1).page(PAGE, Stage.entry(DATA, 0xC3)), PAGE, store,
                    15, PAGE);
            Stage s = new Stage().withFloat(1, 5).with(1, Rig.TIMER + 16384).run(store, load);
            s.fine("a window", 8);
            Rig.due("COMPARE of " + n, s.f(1), n == 8 ? 5 : 5 | -1L << 32);
        }
    }

    private static void faulted(String what, Stage s, long at, int w, int cause, long value) {
        s.memory(DATA, FULL).withFloat(1, 0x0102030405060708L).with(1, at).run(w).due(what, cause, value);
        Rig.due(what + ": the register stays", s.f(1), 0x0102030405060708L);
        Rig.due(what + ": memory stays", s.machine.word(DATA), FULL);
        Rig.due(what + ": FS stays", s.floatState(), 1);
    }

    /** "FS becomes 3 if a register, the flags or the mode of part 3 were written (a flag that was raised counts ...)". */
    private static void floatStates() {
        Stage s = new Stage().withFloat(1, ONE).withFloat(2, ONE).run(Rig.r(83, 5, 2, 1, 2, 20 << 2 | 1));
        Rig.due("compared", s.x(5), 1);
        Rig.due("without a flag", s.floatState(), 1);
        s = new Stage().withFloat(1, SIGNALING).withFloat(2, ONE).run(Rig.r(83, 5, 2, 1, 2, 20 << 2 | 1));
        Rig.due("with a flag", s.floatState(), 3);
        s = new Stage().withFloat(1, SIGNALING).withFloat(2, ONE).withControl(1, 16).run(Rig.r(83, 5, 2, 1, 2, 20 << 2 | 1));
        Rig.due("with one that was there", s.floatState(), 3);
        Rig.due("it is there still", s.control(1), 16);
        s = new Stage().withFloat(1, ONE).withControl(1, 16).run(Rig.r(83, 5, 0, 1, 0, 24 << 2 | 1));
        Rig.due("with none raised, though one is there", s.floatState(), 1);
        s = new Stage().withFloat(1, ONE).run(Rig.r(83, 5, 0, 1, 0, 28 << 2 | 1));
        Rig.due("bits that come out", s.x(5), ONE);
        Rig.due("write nothing", s.floatState(), 1);
        s = new Stage().with(1, ONE).run(Rig.r(83, 5, 0, 1, 0, 30 << 2 | 1));
        Rig.due("bits that go in", s.f(5), ONE);
        Rig.due("are written", s.floatState(), 3);
        s = new Stage().run(Rig.csrrs(3, 3, 0));
        Rig.due("reading the flags", s.floatState(), 1);
        s = new Stage().run(Rig.csrrwi(3, 1, 0));
        Rig.due("writing the flags, with what was there", s.floatState(), 3);
        s = new Stage().with(1, 0).run(Rig.csrrs(3, 2, 1));
        Rig.due("setting nothing of the mode", s.floatState(), 3);
        s = new Stage().run(Rig.r(83, 5, 5, 1, 2, 1));
        Rig.due("what is illegal", s.floatState(), 1);
    }

    // CONTROL.

    private static void writesOrNot() {
        new Stage().run(Rig.csrrs(3, 3857, 0)).gives("SET by register 0 reads alone", 3, 0);
        new Stage().run(Rig.csrrc(3, 3857, 0)).gives("CLEAR by register 0 reads alone", 3, 0);
        new Stage().run(Rig.i(115, 3, 6, 0, 3857)).gives("SET by the number 0 reads alone", 3, 0);
        new Stage().run(Rig.i(115, 3, 7, 0, 3857)).gives("CLEAR by the number 0 reads alone", 3, 0);
        illegal("SET by a register that holds 0", Rig.csrrs(3, 3857, 9));
        illegal("CLEAR by a register that holds 0", Rig.csrrc(3, 3857, 9));
        illegal("WRITE by register 0", Rig.csrrw(3, 3857, 0));
        illegal("WRITE by the number 0", Rig.csrrwi(3, 3857, 0));
        illegal("f 4", Rig.i(115, 3, 4, 0, 832));
        for (int k : new int[] {0, 1, 2, 3, 32, 64, 258, 768, 770, 800}) {
            illegal("f 4 of " + k, Rig.i(115, 3, 4, 0, k));
            illegal("f 4 of " + k + " with a", Rig.i(115, 3, 4, 1, k));
        }
        Stage s = new Stage().withControl(832, FULL).run(Rig.csrrw(3, 832, 0));
        Rig.due("what was there", s.x(3), FULL);
        Rig.due("0 is written", s.control(832), 0);
        s = new Stage().withControl(832, FULL).run(Rig.i(115, 3, 6, 31, 832));
        Rig.due("the greatest number is set", s.control(832), FULL | 31);
        s = new Stage().withControl(832, FULL).run(Rig.i(115, 3, 7, 31, 832));
        Rig.due("the greatest number is cleared", s.control(832), FULL & ~31);
        s = new Stage().withControl(832, FULL).with(3, -1).run(Rig.csrrw(3, 832, 3));
        Rig.due("d and a are one: what was there", s.x(3), FULL);
        Rig.due("d and a are one: what is written", s.control(832), -1);
        s = new Stage().withControl(832, FULL).run(Rig.csrrw(0, 832, 0));
        Rig.due("register 0 gets nothing", s.x(0), 0);
    }

    private static void illegal(String what, int w) {
        new Stage().run(w).due(what, 2, w & 0xFFFFFFFFL);
    }

    /** "(INSTRUCTIONS and CYCLES that are written grow by 1 behind that as ever.)" They wrap. */
    private static void countsGrow() {
        Stage s = new Stage().with(1, -1).run(Rig.csrrw(0, 2816, 1));
        Rig.due("CYCLES wrap", s.control(2816), 0);
        s = new Stage().with(1, -1).run(Rig.csrrw(0, 2818, 1));
        Rig.due("INSTRUCTIONS wrap", s.control(2818), 0);
        s = new Stage().with(1, Long.MAX_VALUE).run(Rig.csrrw(0, 2818, 1));
        Rig.due("INSTRUCTIONS go on", s.control(2818), Long.MIN_VALUE);
        s = new Stage().with(1, 500).run(Rig.csrrw(0, 2816, 1), Rig.csrrs(3, 2816, 0), Rig.csrrs(4, 3072, 0));
        Rig.due("the next word sees one more", s.x(3), 501);
        Rig.due("and the next", s.x(4), 502);
        s = new Stage().with(1, 500).run(Rig.csrrw(0, 2818, 1), Rig.csrrs(3, 3074, 0));
        Rig.due("the next word sees one more", s.x(3), 501);
    }

    /** Those ELSEWHERE: how many bits count. */
    private static void elsewhere() {
        Stage s = new Stage().with(1, -1).run(Rig.csrrw(0, 1, 1), Rig.csrrs(3, 1, 0), Rig.csrrs(4, 3, 0));
        Rig.due("five bits of the flags", s.x(3), 31);
        Rig.due("none of the mode", s.x(4), 31);
        s = new Stage().with(1, -1).run(Rig.csrrw(0, 2, 1), Rig.csrrs(3, 2, 0), Rig.csrrs(4, 3, 0));
        Rig.due("three bits of the mode", s.x(3), 7);
        Rig.due("none of the flags", s.x(4), 224);
        s = new Stage().with(1, -1).run(Rig.csrrw(0, 3, 1), Rig.csrrs(3, 3, 0));
        Rig.due("eight bits of both", s.x(3), 255);
        s = new Stage().with(1, 32).run(Rig.csrrw(0, 1, 1));
        Rig.due("bit 5 of the flags", s.control(3), 0);
        s = new Stage().with(1, 8).run(Rig.csrrw(0, 2, 1));
        Rig.due("bit 3 of the mode", s.control(3), 0);
        s = new Stage().with(1, 256).run(Rig.csrrw(0, 3, 1));
        Rig.due("bit 8 of both", s.control(3), 0);
        s = new Stage().withControl(3, 0xA5).with(1, 0x21).run(Rig.csrrc(3, 3, 1));
        Rig.due("cleared by what it shows", s.control(3), 0x84);
        s = new Stage().with(1, -1).run(Rig.csrrw(0, 944, 1));
        Rig.due("54 bits of a number", s.control(944), (1L << 54) - 1);
        s = new Stage().with(1, 1L << 54).run(Rig.csrrw(0, 951, 1));
        Rig.due("bit 54 of a number", s.control(951), 0);
        for (int k : new int[] {930, 952, 955, 959}) {
            s = new Stage().with(1, -1).run(Rig.csrrw(3, k, 1));
            s.gives("register " + k, 3, 0);
            Rig.due("nothing changes in " + k, s.control(k), 0);
        }
        for (int k : new int[] {0, 4, 927, 929, 931, 943, 960}) {
            illegal("register " + k, Rig.csrrs(3, k, 0));
        }
    }

    /** "928: ... each of the eight as setting them says there, with the locks as they are before". */
    private static void locksBefore() {
        Stage s = new Stage().closed().with(1, 0x8181818181818181L).run(Rig.csrrw(0, 928, 1));
        Rig.due("all are locked by one write", s.control(928), 0x8181818181818181L);
        s = new Stage().closed().with(1, 0x8100810081008100L).with(2, 0x0101010101010101L)
                .run(Rig.csrrw(0, 928, 1), Rig.csrrw(0, 928, 2));
        Rig.due("locked ones stay, the others do not", s.control(928), 0x8101810181018101L);
        s = new Stage().closed().with(1, 0x81).with(2, -1L).run(Rig.csrrw(0, 928, 1), Rig.csrrc(3, 928, 2));
        Rig.due("a lock stays when it is cleared", s.control(928), 0x81);
    }

    // f 0.

    private static void system() {
        int[] all = {Rig.ECALL, Rig.EBREAK, Rig.SRET, Rig.MRET, Rig.WFI, Rig.SFENCE, 115 | 319 << 20};
        for (int w : all) {
            illegal("d 1 of " + (w >>> 20), w | 1 << 7);
            illegal("d 31 of " + (w >>> 20), w | 31 << 7);
            if (w >>> 20 < 288 || w >>> 20 > 319) {
                illegal("a 1 of " + (w >>> 20), w | 1 << 15);
                illegal("a 31 of " + (w >>> 20), w | 31 << 15);
                for (int bit = 1; bit < 32; bit *= 2) {
                    illegal("a " + bit + " of " + (w >>> 20), w | bit << 15);
                    illegal("d " + bit + " of " + (w >>> 20), w | bit << 7);
                }
            }
        }
        new Stage().run(Rig.SFENCE).fine("288", 4);
        new Stage().run(Rig.SFENCE | 31 << 15).fine("288 with a", 4);
        new Stage().run(115 | 319 << 20 | 1 << 15).fine("319 with a", 4);
        for (int k : new int[] {2, 257, 259, 260, 262, 287, 320, 769, 771, 4095}) {
            illegal("" + k, 115 | k << 20);
        }
        for (int mode : new int[] {0, 1, 3}) {
            new Stage().inMode(mode).run(Rig.ECALL).due("0 in mode " + mode, 8 + mode, 0);
            new Stage().inMode(mode).run(Rig.EBREAK).due("1 in mode " + mode, 3, CODE);
        }
        new Stage().runHalves(0x9002).due("1 by its form of 16 bits", 3, CODE);
    }

    private static void modesOfTheSystem() {
        inMode("the supervisor's return", 0, 0, Rig.SRET, false);
        inMode("the supervisor's return", 1, 0, Rig.SRET, true);
        inMode("the supervisor's return, with TSR", 1, TSR, Rig.SRET, false);
        inMode("the supervisor's return, with TSR", 3, TSR, Rig.SRET, true);
        inMode("the machine's return", 0, 0, Rig.MRET, false);
        inMode("the machine's return", 1, 0, Rig.MRET, false);
        inMode("waiting", 0, 0, Rig.WFI, false);
        inMode("waiting", 1, 0, Rig.WFI, true);
        inMode("waiting, with TW", 1, TW, Rig.WFI, false);
        inMode("waiting, with TW", 3, TW, Rig.WFI, true);
        inMode("fencing", 0, 0, Rig.SFENCE, false);
        inMode("fencing", 1, 0, Rig.SFENCE, true);
        inMode("fencing, with TVM", 1, TVM, Rig.SFENCE, false);
        inMode("fencing, with TVM", 3, TVM, Rig.SFENCE, true);
        inMode("fencing, with TW and TSR", 1, TW | TSR, Rig.SFENCE, true);
        inMode("waiting, with TVM and TSR", 1, TVM | TSR, Rig.WFI, true);
        Stage s = new Stage().withControl(321, 0x9000).run(Rig.SRET);
        Rig.due("a return does not grow the counter", s.machine.counter(0), 0x9000);
        Rig.due("it is counted", s.control(2818), new Stage().withControl(321, 0x9000).run(Rig.NOP).control(2818));
    }

    private static void inMode(String what, int mode, long status, int w, boolean isLegal) {
        Stage s = new Stage().inMode(mode).withStatus(status).run(w);
        if (isLegal) {
            Rig.due(what + " in mode " + mode, s.control(834), 0);
        } else {
            s.due(what + " in mode " + mode, 2, w & 0xFFFFFFFFL);
        }
    }

    public static void main(String[] args) {
        dataMode();
        everyKind();
        withinOnePage();
        overTwoPages();
        besideStores();
        allIsFoundFirst();
        windowsByBytes();
        roundTheEnd();
        loadsAndStores();
        atomics();
        floats();
        floatFaults();
        floatStates();
        writesOrNot();
        countsGrow();
        elsewhere();
        locksBefore();
        system();
        modesOfTheSystem();
        Rig.finish("EdgesDataTest");
    }
}
