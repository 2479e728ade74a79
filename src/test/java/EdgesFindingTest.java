/** Part 5: each sentence that names a boundary case, with what it asks for. */
public final class EdgesFindingTest {
    private static final long BASE = Rig.BASE, CODE = Stage.CODE, DATA = Stage.DATA, TABLES = Stage.TABLES;
    private static final long PAGE = Stage.PAGE, SUM = 1 << 18, MXR = 1 << 19, MPRV = 1 << 17;
    private static final int LOADS = Rig.ld(3, 1, 0), STORES = Rig.store(8, 2, 1, 0);
    private static final int V = 1, R = 2, W = 4, X = 8, U = 16, A = 64, D = 128;

    // REGIONS: what they cover, seen by bytes that are loaded by the user.

    /** Region i with a config and a number, the one before with a number; all else is let through by region 7. */
    private static Stage region(int i, int config, long before, long number) {
        Stage s = new Stage().withStatus(MPRV);
        if (i > 0) {
            s.withControl(943 + i, before);
        }
        return s.withControl(944 + i, number).withControl(951, -1).withControl(928, (long) config << 8 * i | 0x1FL << 56);
    }

    private static void covered(String what, int i, int config, long before, long number, long at, boolean isCovered) {
        Stage s = region(i, config, before, number).with(1, at).run(Rig.load(1, 3, 1, 0));
        if (isCovered) {
            s.due(what + " covers " + Long.toHexString(at), 5, at);
        } else {
            s.fine(what + " does not cover " + Long.toHexString(at), 4);
        }
    }

    private static void covers() {
        long q = DATA >> 2;
        covered("A 0", 1, 0, 0, q, DATA, false);
        covered("A 1", 1, 8, q, q + 2, DATA - 1, false);
        covered("A 1", 1, 8, q, q + 2, DATA, true);
        covered("A 1", 1, 8, q, q + 2, DATA + 7, true);
        covered("A 1", 1, 8, q, q + 2, DATA + 8, false);
        covered("A 1, with the same numbers", 1, 8, q, q, DATA, false);
        covered("A 1, with a less number", 1, 8, q + 2, q, DATA, false);
        covered("A 1, with a less number", 1, 8, q + 2, q, DATA + 4, false);
        covered("A 1 of region 0", 0, 8, 0, q, DATA - 1, true);
        covered("A 1 of region 0", 0, 8, 0, q, DATA, false);
        covered("A 1 of region 0", 0, 8, 0, q, BASE, true);
        covered("A 1 of region 0 with 0", 0, 8, 0, 0, BASE, false);
        covered("A 2", 3, 16, 0, q, DATA - 1, false);
        covered("A 2", 3, 16, 0, q, DATA, true);
        covered("A 2", 3, 16, 0, q, DATA + 3, true);
        covered("A 2", 3, 16, 0, q, DATA + 4, false);
        covered("A 3 without ones", 3, 24, 0, q, DATA - 1, false);
        covered("A 3 without ones", 3, 24, 0, q, DATA + 7, true);
        covered("A 3 without ones", 3, 24, 0, q, DATA + 8, false);
        covered("A 3 with one", 3, 24, 0, q | 1, DATA, true);
        covered("A 3 with one", 3, 24, 0, q | 1, DATA + 15, true);
        covered("A 3 with one", 3, 24, 0, q | 1, DATA + 16, false);
        covered("A 3 with ten", 3, 24, 0, q | 1023, DATA - 1, false);
        covered("A 3 with ten", 3, 24, 0, q | 1023, DATA + 8191, true);
        covered("A 3 with ten", 3, 24, 0, q | 1023, DATA + 8192, false);
        covered("A 3 with 53", 0, 24, 0, (1L << 53) - 1, BASE, true);
        covered("A 3 with 54", 0, 24, 0, (1L << 54) - 1, BASE + 4194303, true);
        covered("A 3 far away", 0, 24, 0, 1L << 53 | q, DATA, false);
    }

    private static void configs() {
        Rig.due("bits 5 and 6 are 0", configured(0x7F), 0x1F);
        Rig.due("W without R", configured(0x1A), 0x18);
        Rig.due("W and X without R", configured(0x1E), 0x1C);
        Rig.due("W and R", configured(0x1B), 0x1B);
        Rig.due("locked, W without R", configured(0x82), 0x80);
    }

    private static long configured(long config) {
        return new Stage().closed().with(1, config << 16).run(Rig.csrrw(0, 928, 1)).control(928) >> 16;
    }

    /** "A region with L 1 is LOCKED: its config and number stay; so does the number of the one before it, if its A is 1." */
    private static void locks() {
        for (int i = 1; i < 8; i++) {
            for (int a = 0; a < 4; a++) {
                long config = (long) (0x80 | a << 3) << 8 * i;
                Stage s = new Stage().closed().with(1, 5).with(2, config).with(3, 9).with(4, 0x0101010101010101L).run(
                        Rig.csrrw(0, 944 + i, 1), Rig.csrrw(0, 943 + i, 1), Rig.csrrw(0, 928, 2),
                        Rig.csrrw(0, 944 + i, 3), Rig.csrrw(0, 943 + i, 3), Rig.csrrw(0, 928, 4));
                Rig.due("number of a locked one", s.control(944 + i), 5);
                Rig.due("number before a locked one with A " + a, s.control(943 + i), a == 1 ? 5 : 9);
                Rig.due("config of a locked one", s.control(928), 0x0101010101010101L & ~(255L << 8 * i) | config);
                s.machine.start();
                Rig.due("start undoes it", s.control(928) | s.control(944 + i), 0);
            }
        }
        Stage s = new Stage().closed().with(1, 5).with(2, 0x80).with(3, 9).run(Rig.csrrw(0, 944, 1), Rig.csrrw(0, 945, 1),
                Rig.csrrw(0, 928, 2), Rig.csrrw(0, 944, 3), Rig.csrrw(0, 945, 3));
        Rig.due("the first one is locked", s.control(944), 5);
        Rig.due("the one behind it is not", s.control(945), 9);
    }

    // LET THROUGH.

    private static Stage let(int mode, int w, long number0, long number1, long configs) {
        return new Stage().withStatus(mode == 3 ? 0 : MPRV | (long) mode << 11).withControl(944, number0)
                .withControl(945, number1).withControl(951, -1).withControl(928, configs).with(1, DATA).run(w);
    }

    private static void letThrough() {
        long q = DATA >> 2;
        let(3, LOADS, q, 0, 0x10).due("four of eight, not locked, in mode 3", 5, DATA);
        let(3, LOADS, q + 1, 0, 0x10).due("the other four", 5, DATA);
        let(3, LOADS, q, 0, 0x18).fine("all eight, without a right, in mode 3", 4);
        let(3, STORES, q, 0, 0x18).fine("all eight, without a right, in mode 3", 4);
        let(3, LOADS, q, 0, 0x98).due("all eight, locked, in mode 3", 5, DATA);
        let(3, LOADS, q, 0, 0x99).fine("all eight, locked, with R", 4);
        let(3, STORES, q, 0, 0x99).due("all eight, locked, without W", 7, DATA);
        let(3, STORES, q, 0, 0x9B).fine("all eight, locked, with W", 4);
        let(1, LOADS, q, 0, 0x19).fine("with R in mode 1", 4);
        let(1, LOADS, q, 0, 0x1C).due("with X in mode 1", 5, DATA);
        let(1, STORES, q, 0, 0x1D).due("without W in mode 1", 7, DATA);
        let(0, STORES, q, 0, 0x1B).fine("with W in mode 0", 4);
        let(1, LOADS, q, q + 1, 0x1F13).due("two regions, four each", 5, DATA);
        let(1, LOADS, q, q, 0x1F18).due("the first one counts", 5, DATA);
        let(1, LOADS, q, q, 0x181F).fine("the first one counts", 4);
        let(1, LOADS, q + 2, q, 0x1F18).fine("the first one that covers counts", 4);
        let(3, LOADS, 0, 0, 0).fine("none covers, in mode 3", 4);
        // Regions that cover nothing, though a bound of theirs lies within the data.
        let(1, LOADS, q + 1, 0, 0x1FL << 56).fine("A 0, its number within", 4);
        let(3, LOADS, q + 1, 0, 0x1FL << 56 | 0x98).due("A 3, its number within", 5, DATA);
        let(1, LOADS, q + 1, q + 1, 0x1FL << 56 | 0x0800).fine("A 1, twice the same number within", 4);
        let(1, LOADS, q + 2, q + 1, 0x1FL << 56 | 0x0800).fine("A 1, a less number within", 4);
        let(1, Rig.ld(3, 1, 1), q + 2, q + 1, 0x1FL << 56 | 0x0800).fine("A 1, both numbers within, the less one last", 4);
        let(1, Rig.ld(3, 1, 1), q + 1, q + 2, 0x1FL << 56 | 0x0900).due("A 1, both numbers within", 5, DATA + 1);
        let(1, LOADS, 0, 0, 0).due("none covers, in mode 1", 5, DATA);
        let(0, STORES, 0, 0, 0).due("none covers, in mode 0", 7, DATA);
        // A fetch.
        Stage s = new Stage().withControl(944, DATA >> 2).withControl(928, 0x9B).at(DATA).ready().more(1);
        s.due("a fetch without X, locked", 1, DATA);
        s = new Stage().withControl(944, DATA >> 2).withControl(928, 0x1B).words(DATA, Rig.NOP).at(DATA).ready().more(1);
        s.fine("a fetch without X, not locked, in mode 3", 4);
        s = new Stage().inMode(1).withControl(944, DATA >> 2).withControl(928, 0x1B).at(DATA).ready().more(1);
        s.due("a fetch without X in mode 1", 1, DATA);
        s = new Stage().inMode(0).withControl(944, DATA >> 2).withControl(928, 0x1C).words(DATA, Rig.NOP).at(DATA).ready().more(1);
        s.fine("a fetch with X alone", 4);
    }

    // TO FIND an address.

    private static void bare() {
        new Stage().withControl(384, 8L << 60).with(1, DATA).run(LOADS).fine("a table in mode 3", 4);
        new Stage().inMode(1).withControl(384, 5).with(1, DATA).run(LOADS).fine("sort 0 in mode 1", 4);
        new Stage().inMode(1).with(1, 1L << 56 | DATA).run(LOADS).due("bit 56", 5, 1L << 56 | DATA);
        new Stage().inMode(1).with(1, 1L << 63 | DATA).run(STORES).due("bit 63", 7, 1L << 63 | DATA);
        new Stage().inMode(1).at(1L << 60).ready().more(1).due("bit 60 of a fetch", 1, 1L << 60);
        new Stage().with(1, 1L << 55 | DATA).run(LOADS).due("bit 55: there is no memory", 5, 1L << 55 | DATA);
    }

    /** A table of sort 8, or 9 with one more page before it. */
    private static Stage stage(int sort, int mode) {
        Stage s = new Stage().tables(mode).with(2, 7);
        if (sort == 9) {
            s.memory(TABLES + 0x8000, Stage.entry(TABLES, V)).memory(TABLES + 0x8000 + 8 * 511, Stage.entry(TABLES, V))
                    .withControl(384, 9L << 60 | TABLES + 0x8000 >> 12);
        }
        return s;
    }

    /** "If the bits of a from 9 n + 11 on are not all the same, it is a page fault." */
    private static void farAddresses() {
        for (int sort = 8; sort <= 9; sort++) {
            int top = sort == 8 ? 38 : 47;
            long most = (1L << top) - 8, least = -(1L << top);
            stage(sort, 1).with(1, most + 8).run(LOADS).due("the first one beyond", 13, most + 8);
            stage(sort, 1).with(1, least - 8).run(STORES).due("the last one before", 15, least - 8);
            stage(sort, 1).at(most + 8).ready().more(1).due("a fetch", 12, most + 8);
            stage(sort, 1).with(1, 1L << 63).run(LOADS).due("bit 63 alone", 13, 1L << 63);
            stage(sort, 1).with(1, 1L << top + 1).run(LOADS).due("a bit above", 13, 1L << top + 1);
            // Those at the edges are looked up: in the entries 255 and 256 of the first page.
            Stage s = stage(sort, 1).with(1, most).memory(first(sort) + 8 * 255, Stage.entry(0, 0xCF));
            s.run(LOADS).due("the last one that is looked up", 5, most);
            s = stage(sort, 1).with(1, least).memory(first(sort) + 8 * 256, Stage.entry(0, 0xCF));
            s.run(LOADS).due("the first one that is looked up", 5, least);
        }
        stage(9, 1).with(1, 1L << 38).memory(TABLES + 8 * 256, Stage.entry(0, 0xCF)).run(LOADS)
                .due("sort 9 goes farther than sort 8", 5, 1L << 38);
    }

    private static long first(int sort) {
        return sort == 8 ? TABLES : TABLES + 0x8000;
    }

    /** "It is an access fault if there is no such word in memory, or its eight bytes are not let through". */
    private static void entries() {
        new Stage().inMode(1).withControl(384, 8L << 60).at(PAGE).ready().more(1).due("a table at 0, fetched", 1, PAGE);
        stage(8, 1).memory(TABLES, Stage.entry(0x1000, V)).with(1, PAGE).run(LOADS).due("no memory at the second depth", 5, PAGE);
        stage(8, 1).memory(TABLES, Stage.entry(BASE - 4096, V)).with(1, PAGE).run(STORES).due("just before memory", 7, PAGE);
        stage(8, 1).memory(TABLES, Stage.entry(BASE + 4194304, V)).with(1, PAGE).run(STORES).due("just behind memory", 7, PAGE);
        stage(8, 1).memory(TABLES, Stage.entry(Rig.TIMER, V)).with(1, PAGE).run(LOADS).due("a window is no memory", 5, PAGE);
        long last = BASE + 4194304 - 4096;
        stage(8, 1).memory(TABLES, Stage.entry(last, V)).memory(last, Stage.entry(TABLES + 0x2000, V)).with(1, PAGE).run(LOADS)
                .fine("the last page of memory", 4);
        stage(8, 1).withControl(384, 8L << 60 | 0xFFFFL << 44 | TABLES >> 12).with(1, PAGE).run(LOADS)
                .fine("bits 44..59 of the table do not count", 4);
        stage(8, 1).withControl(384, 8L << 60 | 1L << 43 | TABLES >> 12).run(LOADS).due("bit 43 of the table does", 1, CODE);
        stage(8, 1).memory(TABLES, Stage.entry(TABLES + 0x1000, V) | 1L << 53).with(1, PAGE).run(LOADS)
                .due("the highest bit of the next page's number", 5, PAGE);
        stage(8, 1).page(PAGE, Stage.entry(DATA, 0xCF) | 1L << 53).with(1, PAGE).run(LOADS)
                .due("the highest bit of the last page's number", 5, PAGE);
        // Regions over the tables: without R, with R alone; the user's accesses go by mode 1 as well.
        for (int mode = 0; mode < 2; mode++) {
            Stage s = stage(8, mode).withControl(944, TABLES >> 2 | 0x1FF).withControl(951, -1);
            s.withControl(928, 0x1FL << 56 | 0x1C).with(1, PAGE).at(CODE).words(CODE, LOADS).ready().more(1);
            s.due("an entry that is not let through, in mode " + mode, 1, CODE);
            s = stage(8, mode).withControl(944, TABLES >> 2 | 0x1FF).withControl(951, -1);
            s.withControl(928, 0x1FL << 56 | 0x19).with(1, PAGE).run(LOADS).fine("an entry that may be loaded, in mode " + mode, 4);
        }
    }

    private static Stage leaf(int mode, long status, long bits) {
        return stage(8, mode).withStatus(status).page(PAGE, Stage.entry(DATA, 0) | bits).memory(DATA, 55).with(1, PAGE);
    }

    private static void loads(String what, int mode, long status, long bits, boolean isFine) {
        Stage s = leaf(mode, status, bits).run(LOADS);
        if (isFine) {
            s.gives(what, 3, 55);
        } else {
            s.due(what, 13, PAGE);
        }
    }

    private static void stores(String what, int mode, long status, long bits, boolean isFine) {
        Stage s = leaf(mode, status, bits).run(STORES);
        if (isFine) {
            s.fine(what, 4);
        } else {
            s.due(what, 15, PAGE);
        }
        Rig.due(what + ": memory", s.machine.word(DATA), isFine ? 7 : 55);
    }

    private static void fetches(String what, int mode, long status, long bits, boolean isFine) {
        Stage s = leaf(mode, status, bits).words(DATA, Rig.NOP).at(PAGE).ready().more(1);
        if (isFine) {
            s.fine(what, 4);
        } else {
            s.due(what, 12, PAGE);
        }
    }

    private static void bits() {
        int all = V | R | W | X | A | D;
        loads("all rights", 1, 0, all, true);
        loads("V 0", 1, 0, all & ~V, false);
        loads("W without R", 1, 0, V | W | A | D, false);
        loads("W and X without R", 1, MXR, V | W | X | A | D, false);
        for (int i = 54; i < 64; i++) {
            loads("bit " + i, 1, 0, all | 1L << i, false);
        }
        loads("bits 5, 8 and 9", 1, 0, all | 0x320, true);
        loads("R and X 0 at the last depth", 1, 0, V | A, false);
        loads("R and X 0 at the last depth, A and D 0", 1, 0, V, false);
        for (int bit : new int[] {U, A, D}) {
            stage(8, 1).memory(TABLES, Stage.entry(TABLES + 0x1000, V | bit)).with(1, PAGE).run(LOADS)
                    .due("the bit " + bit + " of an entry that leads on", 13, PAGE);
            stage(8, 1).memory(TABLES + 0x1000, Stage.entry(TABLES + 0x2000, V | bit)).with(1, PAGE).run(STORES)
                    .due("the bit " + bit + " at the second depth", 15, PAGE);
        }
        stage(8, 1).memory(TABLES, Stage.entry(TABLES + 0x1000, V | 0x320)).with(1, PAGE).run(LOADS)
                .fine("bits 5, 8 and 9 of an entry that leads on", 4);
        stage(8, 1).memory(TABLES, 0).with(1, PAGE).run(LOADS).due("V 0 at the first depth", 13, PAGE);
        stage(8, 1).memory(TABLES, Stage.entry(TABLES + 0x1000, V | W)).with(1, PAGE).run(LOADS)
                .due("W alone at the first depth", 13, PAGE);
    }

    private static void rights() {
        int rw = V | R | W | A | D;
        loads("the user without U", 0, 0, rw, false);
        loads("the user with U", 0, 0, rw | U, true);
        loads("the user without U, with SUM", 0, SUM, rw, false);
        loads("the supervisor with U", 1, 0, rw | U, false);
        loads("the supervisor with U and SUM", 1, SUM, rw | U, true);
        stores("the supervisor with U", 1, 0, rw | U, false);
        stores("the supervisor with U and SUM", 1, SUM, rw | U, true);
        fetches("the supervisor with U and SUM", 1, SUM, rw | X | U, false);
        fetches("the user with U", 0, 0, V | X | A | U, true);
        fetches("without X", 1, 0, rw, false);
        fetches("without X, with MXR", 1, MXR, rw, false);
        fetches("with X alone", 1, 0, V | X | A, true);
        loads("with X alone", 1, 0, V | X | A, false);
        loads("with X alone and MXR", 1, MXR, V | X | A, true);
        loads("with R alone", 1, 0, V | R | A, true);
        stores("with R alone", 1, 0, V | R | A | D, false);
        stores("with X alone and MXR", 1, MXR, V | X | A | D, false);
        stores("with R and W", 1, 0, rw, true);
        // MPRV: the rights of the mode in MPP.
        Stage s = stage(8, 1).inMode(3).withStatus(MPRV).page(PAGE, Stage.entry(DATA, rw)).with(1, PAGE).run(LOADS);
        s.due("the user's rights by MPRV", 13, PAGE);
    }

    /** "The last one, at depth i, gives a page fault if one of the lowest 9 i bits of its number is 1". */
    private static void greatPages() {
        int all = V | R | W | X | A | D;
        long at = DATA - BASE;
        stage(8, 1).memory(TABLES, Stage.entry(BASE, all)).memory(DATA, 55).with(1, at).run(LOADS).gives("a gigabyte", 3, 55);
        stage(8, 1).memory(TABLES + 0x1000, Stage.entry(BASE, all)).memory(DATA, 55).with(1, at).run(LOADS)
                .gives("two megabytes", 3, 55);
        for (int i = 0; i < 18; i++) {
            stage(8, 1).memory(TABLES, Stage.entry(BASE, all) | 1L << 10 + i).with(1, at).run(LOADS)
                    .due("a gigabyte with the bit " + i, 13, at);
        }
        for (int i = 0; i < 9; i++) {
            stage(8, 1).memory(TABLES + 0x1000, Stage.entry(BASE, all) | 1L << 10 + i).with(1, at).run(LOADS)
                    .due("two megabytes with the bit " + i, 13, at);
        }
        stage(8, 1).memory(TABLES + 0x1000, Stage.entry(BASE + 0x200000, all)).memory(BASE + 0x200000 + at, 56).with(1, at).run(LOADS)
                .gives("two megabytes with bit 9", 3, 56);
        stage(9, 1).memory(TABLES + 0x8000, Stage.entry(0, all)).memory(DATA, 54).with(1, DATA).run(LOADS)
                .gives("half a terabyte, the word that loads too", 3, 54);
        stage(9, 1).memory(TABLES + 0x8000 + 8 * 5, Stage.entry(0, all)).memory(DATA, 55).with(1, 5L << 39 | DATA).run(LOADS)
                .gives("half a terabyte", 3, 55);
        for (int i = 0; i < 27; i++) {
            stage(9, 1).memory(TABLES + 0x8000 + 8 * 5, Stage.entry(0, all) | 1L << 10 + i).with(1, 5L << 39 | DATA).run(LOADS)
                    .due("half a terabyte with the bit " + i, 13, 5L << 39 | DATA);
        }
        // The last address of a great page.
        stage(8, 1).memory(TABLES, Stage.entry(BASE, all)).with(1, (1L << 30) - 8).run(LOADS)
                .due("its last address is in no memory", 5, (1L << 30) - 8);
        stage(8, 1).memory(TABLES + 0x1000, Stage.entry(BASE + 0x200000, all)).memory(BASE + 0x3FFFF8, 57).with(1, 0x1FFFF8).run(LOADS)
                .gives("its last address", 3, 57);
    }

    // Marks.

    private static void marked(String what, int w, long before, long want, int cause) {
        Stage s = leaf(1, 0, before).run(w);
        if (cause == 0) {
            s.fine(what, 4);
        } else {
            s.due(what, cause, PAGE);
        }
        Rig.due(what + ": the entry", s.machine.word(Stage.leaf(PAGE)), Stage.entry(DATA, 0) | want);
    }

    private static void marks() {
        int rw = V | R | W;
        marked("a load", LOADS, rw, rw | A, 0);
        marked("a load with A", LOADS, rw | A, rw | A, 0);
        marked("a load with D alone", LOADS, rw | D, rw | A | D, 0);
        marked("a store", STORES, rw, rw | A | D, 0);
        marked("a store with A", STORES, rw | A, rw | A | D, 0);
        marked("a store with D alone", STORES, rw | D, rw | A | D, 0);
        marked("a store that may not be", STORES, V | R, V | R, 15);
        marked("other bits stay", STORES, rw | 0x320, rw | 0x320 | A | D, 0);
        Stage s = leaf(1, 0, V | X).words(DATA, Rig.NOP).at(PAGE).ready().more(1).fine("a fetch", 4);
        Rig.due("a fetch: the entry", s.machine.word(Stage.leaf(PAGE)), Stage.entry(DATA, V | X | A));
        // Tables that may not be stored into.
        readOnly("a load of a page without A", LOADS, rw, 5);
        readOnly("a store into a page without D", STORES, rw | A, 7);
        readOnly("a load of a page with A", LOADS, rw | A, 0);
        readOnly("a store into a page with both", STORES, rw | A | D, 0);
        Rig.due("a great page is marked too", great(), Stage.entry(BASE, V | R | W | A | D));
        // Just its eight bytes may be stored into, what is beside them may not.
        for (long beside : new long[] {-8, 8}) {
            s = leaf(1, 0, rw).withControl(944, Stage.leaf(PAGE) >> 2).withControl(945, Stage.leaf(PAGE) + beside >> 2)
                    .withControl(951, -1).withControl(928, 0x1FL << 56 | 0x191B).run(STORES);
            s.fine("a region of just the entry", 4);
            Rig.due("it is marked", s.machine.word(Stage.leaf(PAGE)), Stage.entry(DATA, rw | A | D));
            s = leaf(1, 0, rw).withControl(944, Stage.leaf(PAGE) >> 2).withControl(945, Stage.leaf(PAGE) + beside >> 2)
                    .withControl(951, -1).withControl(928, 0x1FL << 56 | 0x1B19).run(STORES);
            s.due("a region of just the entry, without W", 7, PAGE);
        }
    }

    private static void readOnly(String what, int w, long bits, int cause) {
        Stage s = leaf(1, 0, bits).withControl(944, TABLES >> 2 | 0xFFF).withControl(951, -1)
                .withControl(928, 0x1FL << 56 | 0x19).run(w);
        if (cause == 0) {
            s.fine(what, 4);
        } else {
            s.due(what, cause, PAGE);
        }
        Rig.due(what + ": the entry stays", s.machine.word(Stage.leaf(PAGE)), Stage.entry(DATA, 0) | bits);
    }

    private static long great() {
        Stage s = stage(8, 1).memory(TABLES, Stage.entry(BASE, V | R | W)).with(1, DATA - BASE).run(STORES);
        return s.machine.word(TABLES);
    }

    /** "At last it is an access fault if the bytes ... are not let through ... (Marks that were put stay ...)". */
    private static void atLast() {
        Stage s = leaf(1, 0, V | R | W).withControl(944, DATA >> 2).withControl(951, -1).withControl(928, 0x1FL << 56 | 0x19)
                .run(STORES);
        s.due("a page that may be stored into, a region that may not", 7, PAGE);
        Rig.due("the marks stay", s.machine.word(Stage.leaf(PAGE)), Stage.entry(DATA, V | R | W | A | D));
        s = leaf(1, 0, V | R | W).withControl(944, DATA >> 2).withControl(951, -1).withControl(928, 0x1FL << 56 | 0x1C)
                .run(LOADS);
        s.due("a page that may be loaded, a region that may not", 5, PAGE);
        Rig.due("the mark stays", s.machine.word(Stage.leaf(PAGE)), Stage.entry(DATA, V | R | W | A));
        s = stage(8, 1).page(PAGE, Stage.entry(0x3000, V | R | W)).with(1, PAGE).run(STORES);
        s.due("a page where there is no memory", 7, PAGE);
        Rig.due("it is marked all the same", s.machine.word(Stage.leaf(PAGE)), Stage.entry(0x3000, V | R | W | A | D));
        s = stage(8, 1).page(PAGE, Stage.entry((1L << 56) - 4096, V | R | W)).with(1, PAGE + 8).run(LOADS);
        s.due("the greatest number of a page", 5, PAGE + 8);
    }

    /** A fault is that of its own access: where an earlier one was found does not matter. */
    private static void ownFaults() {
        // The code may be fetched alone, so that its place would not be let through for a load.
        for (int w : new int[] {LOADS, STORES}) {
            Stage s = stage(8, 1).withControl(944, CODE >> 2 | 0x1FF).withControl(951, -1).withControl(928, 0x1FL << 56 | 0x1C);
            s.with(1, PAGE + 4096).run(w).due("a page fault behind a fetch", w == LOADS ? 13 : 15, PAGE + 4096);
        }
        // The last word of a page loads from a window; the next page is not there.
        Stage s = stage(8, 1).page(PAGE + 0x3000, Stage.entry(Rig.TIMER, 0xCF)).words(DATA + 4092, Rig.load(4, 3, 1, 0))
                .with(1, PAGE + 0x3000).at(PAGE + 4092).ready().more(2);
        s.due("a page fault of a fetch behind a window", 12, PAGE + 4096, PAGE + 4096);
        s = stage(8, 1).words(DATA + 4092, Rig.ld(3, 1, 0)).with(1, PAGE).withControl(944, DATA >> 2 | 0x1FF)
                .withControl(951, -1).withControl(928, 0x1FL << 56 | 0x1D).at(PAGE + 4092).ready().more(2);
        s.due("a page fault of a fetch behind a load", 12, PAGE + 4096, PAGE + 4096);
    }

    /** "Nothing is ever remembered that a program could see": an entry counts as it is now, without a fence. */
    private static void nothingIsRemembered() {
        Stage s = stage(8, 1).memory(DATA, 55).memory(DATA + 0x1000, 66).with(1, PAGE).with(4, Stage.leaf(PAGE))
                .with(5, Stage.entry(DATA + 0x1000, 0xCF)).run(Rig.ld(6, 1, 0), Rig.store(8, 5, 4, 0), Rig.ld(7, 1, 0),
                        Rig.store(8, 0, 4, 0), Rig.ld(8, 1, 0));
        Rig.due("before", s.x(6), 55);
        Rig.due("behind a store into the table", s.x(7), 66);
        s.due("behind another one", 13, PAGE, CODE + 16);
    }

    public static void main(String[] args) {
        covers();
        configs();
        locks();
        letThrough();
        bare();
        farAddresses();
        entries();
        bits();
        rights();
        greatPages();
        marks();
        atLast();
        ownFaults();
        nothingIsRemembered();
        Rig.finish("EdgesFindingTest");
    }
}
