/** Parts 1 and 2: each sentence that names a boundary case, with the answer that it asks for. */
public final class EdgesIntegerTest {
    private static final long MIN = Long.MIN_VALUE, MAX = Long.MAX_VALUE, CODE = Stage.CODE, DATA = Stage.DATA;
    private static final int LEAST = Integer.MIN_VALUE, MOST = Integer.MAX_VALUE;

    private static void longs(String what, int g, int f, long x, long y, long want) {
        new Stage().with(1, x).with(2, y).run(Rig.r(51, 3, f, 1, 2, g)).gives(what, 3, want);
    }

    private static void ints(String what, int g, int f, long x, long y, long want) {
        new Stage().with(1, x).with(2, y).run(Rig.r(59, 3, f, 1, 2, g)).gives(what, 3, want);
    }

    private static void immediate(String what, int f, long x, int i, long want) {
        new Stage().with(1, x).run(Rig.i(19, 3, f, 1, i)).gives(what, 3, want);
    }

    private static void immediateInt(String what, int f, long x, int i, long want) {
        new Stage().with(1, x).run(Rig.i(27, 3, f, 1, i)).gives(what, 3, want);
    }

    private static void illegal(String what, int w) {
        Stage s = new Stage().with(1, DATA).with(3, 77).run(w).due(what, 2, w & 0xFFFFFFFFL);
        Rig.due(what + " changes nothing", s.x(3), 77);
    }

    // "register 0 holds 0 always, whatever it gets".

    private static void registerZero() {
        int[] words = {Rig.addi(0, 1, 1), Rig.lui(0, 0xFFFFF), Rig.auipc(0, 1), Rig.jal(0, 4), Rig.r(51, 0, 0, 1, 1, 0),
            Rig.r(59, 0, 0, 1, 1, 0), Rig.ld(0, 1, 0), Rig.csrrs(0, 769, 0), Rig.amo(0, 8, 0, 1, 1), Rig.i(27, 0, 0, 1, 1),
            Rig.r(83, 0, 0, 1, 0, 28 << 2 | 1), Rig.r(83, 0, 1, 1, 0, 28 << 2 | 1)};
        for (int w : words) {
            Stage s = new Stage().memory(DATA, -1).with(1, DATA).withFloat(1, -1).run(w);
            s.fine("register 0 gets something", 4);
            Rig.due("register 0", s.x(0), 0);
        }
        Stage s = new Stage().with(1, CODE + 4).run(Rig.jalr(0, 1, 0));
        Rig.due("register 0", s.x(0), 0);
    }

    // "THE COUNTER is a long without its bit 0".

    private static void counters() {
        Stage s = new Stage().with(1, 0x9001).run(Rig.jalr(3, 1, 0));
        Rig.due("a jump to an odd number", s.machine.counter(0), 0x9000);
        Rig.due("its register", s.x(3), CODE + 4);
        s = new Stage().with(1, 0x9000).run(Rig.jalr(3, 1, -1));
        Rig.due("a jump to a number that becomes odd", s.machine.counter(0), 0x8FFE);
        s = new Stage().with(1, 0x9001).run(Rig.jalr(3, 1, 1));
        Rig.due("odd and odd", s.machine.counter(0), 0x9002);
        s = new Stage().with(1, -1).run(Rig.jalr(3, 1, 1));
        Rig.due("a jump that wraps", s.machine.counter(0), 0);
        s = new Stage().with(1, 0).run(Rig.jalr(3, 1, -1));
        Rig.due("a jump that wraps down", s.machine.counter(0), -2);
        s = new Stage().with(1, 0x9000).run(Rig.jalr(1, 1, 2));
        Rig.due("x as it was before", s.machine.counter(0), 0x9002);
        Rig.due("and then the register", s.x(1), CODE + 4);
        Rig.due("no breach", s.machine.breaches(), 0);
    }

    private static void immediates() {
        immediate("the greatest I", 0, 0, 2047, 2047);
        immediate("the least I", 0, 0, -2048, -2048);
        new Stage().run(Rig.lui(3, 0x80000)).gives("U with its sign", 3, LEAST);
        new Stage().run(Rig.lui(3, 0x7FFFF)).gives("the greatest U", 3, 0x7FFFF000L);
        new Stage().run(Rig.auipc(3, 0x80000)).gives("the counter and the least U", 3, CODE + LEAST);
        int[] jumps = {1048574, -1048576, 2, 0};
        for (int j : jumps) {
            Stage s = new Stage().run(Rig.jal(3, j));
            Rig.due("J " + j, s.machine.counter(0), CODE + j);
            Rig.due("its register", s.x(3), CODE + 4);
        }
        int[] branches = {4094, -4096, 2, 0};
        for (int b : branches) {
            Stage s = new Stage().run(Rig.branch(0, 0, 0, b));
            Rig.due("B " + b, s.machine.counter(0), CODE + b);
        }
        for (int i : new int[] {2047, -2048}) {
            Stage s = new Stage().with(1, DATA + 0x1000).with(2, 5).run(Rig.store(8, 2, 1, i));
            Rig.due("S " + i, s.machine.word(DATA + 0x1000 + i), 5);
            s = new Stage().memory(DATA + 0x1000 + i, 5).with(1, DATA + 0x1000).run(Rig.ld(3, 1, i));
            s.gives("I of a load " + i, 3, 5);
        }
    }

    // "Numbers wrap. UNSIGNED means that longs (ints) are taken as 0 .. 2^64 - 1 (2^32 - 1)".

    private static void wraps() {
        longs("the greatest and 1", 0, 0, MAX, 1, MIN);
        longs("the least less 1", 32, 0, MIN, 1, MAX);
        longs("0 less the least", 32, 0, 0, MIN, MIN);
        immediate("the least and -1", 0, MIN, -1, MAX);
        ints("the greatest int and 1", 0, 0, MOST, 1, LEAST);
        ints("the least int less 1", 32, 0, LEAST, 1, MOST);
        ints("upper bits do not count", 0, 0, 0x7_FFFFFFFFL, 1L << 40, -1);
        immediateInt("INT (x + I)", 0, MOST, 1, LEAST);
        immediateInt("INT (x + I) down", 0, 0x80000000L, -1, MOST);
        immediateInt("INT x alone", 0, 0x1_80000000L, 0, LEAST);
        longs("a product that wraps", 1, 0, MAX, 2, -2);
        longs("the least times itself", 1, 0, MIN, MIN, 0);
        ints("a product of ints that wraps", 1, 0, 65536, 65536, 0);
        ints("the least int times -1", 1, 0, LEAST, -1, LEAST);
    }

    private static void compares() {
        longs("-1 is less than 0", 0, 2, -1, 0, 1);
        longs("unsigned it isn't", 0, 3, -1, 0, 0);
        longs("0 is less than -1, unsigned", 0, 3, 0, -1, 1);
        longs("the greatest is less than the least, unsigned", 0, 3, MAX, MIN, 1);
        longs("the least is less than the greatest", 0, 2, MIN, MAX, 1);
        longs("none is less than itself", 0, 2, MIN, MIN, 0);
        longs("none is less than itself, unsigned", 0, 3, -1, -1, 0);
        immediate("I with its sign", 2, -2, -1, 1);
        immediate("I unsigned, with its sign before", 3, 5, -1, 1);
        immediate("the greatest is not less than I -1, unsigned", 3, -1, -1, 0);
        immediate("0 is less than 1, unsigned", 3, 0, 1, 1);
        for (int i : new int[] {-2048, -1, 0, 1, 2047}) {
            for (int near = -1; near <= 1; near++) {
                long x = i + near;
                immediate(x + " and I " + i, 2, x, i, near < 0 ? 1 : 0);
                immediate(x + " and I " + i + ", unsigned", 3, x, i, Long.compareUnsigned(x, i) < 0 ? 1 : 0);
            }
        }
    }

    private static void branches() {
        long[][] pairs = {{5, 5}, {-1, 0}, {0, -1}, {MIN, MAX}, {MAX, MIN}};
        int[] taken = {0b10100001, 0b10010010, 0b01100010, 0b10010010, 0b01100010};
        for (int p = 0; p < pairs.length; p++) {
            for (int f : new int[] {0, 1, 4, 5, 6, 7}) {
                Stage s = new Stage().with(1, pairs[p][0]).with(2, pairs[p][1]).run(Rig.branch(f, 1, 2, 64));
                boolean jumps = (taken[p] >> f & 1) == 1;
                Rig.due("f " + f + " of " + pairs[p][0] + ", " + pairs[p][1], s.machine.counter(0), CODE + (jumps ? 64 : 4));
            }
        }
        illegal("a branch with f 2", Rig.branch(2, 1, 2, 64));
        illegal("a branch with f 3", Rig.branch(3, 1, 2, 64));
        for (int distance = 0; distance < 256; distance += 32) {
            illegal("a branch with f 2 by " + distance, Rig.branch(2, 1, 2, distance));
            illegal("a branch with f 3 by " + distance, Rig.branch(3, 1, 2, distance));
        }
    }

    // Shifts: "s being the six lowest bits of y", "the five lowest bits of y".

    private static void shifts() {
        immediate("by 0", 1, -5, 0, -5);
        immediate("by 63", 1, 3, 63, MIN);
        immediate("down by 63", 5, -1, 63, 1);
        immediate("down by 63 with sign", 5, MIN, 1024 + 63, -1);
        immediate("down by 0 with sign", 5, MIN, 1024, MIN);
        longs("by 64 is by 0", 0, 1, 5, 64, 5);
        longs("by -1 is by 63", 0, 1, 1, -1, MIN);
        longs("down by 64", 0, 5, -1, 64, -1);
        longs("down by 127", 0, 5, -1, 127, 1);
        longs("down by 64 with sign", 32, 5, MIN, 64, MIN);
        longs("down by 63 with sign", 32, 5, MIN, 63, -1);
        ints("ints by 32 is by 0", 0, 1, 5, 32, 5);
        ints("ints by 31", 0, 1, 1, 31, LEAST);
        ints("ints down by 32", 0, 5, -1, 32, -1);
        ints("ints down by 31", 0, 5, -1, 31, 1);
        ints("ints down by 1", 0, 5, -1, 1, MOST);
        ints("ints down by 31 with sign", 32, 5, LEAST, 31, -1);
        ints("ints down by 32 with sign", 32, 5, LEAST, 32, LEAST);
        immediateInt("int by 31", 1, 1, 31, LEAST);
        immediateInt("int by 0, of which 32 bits count", 1, 0xFFFFFFFFL, 0, -1);
        immediateInt("int down by 0", 5, 0x80000000L, 0, LEAST);
        immediateInt("int down by 31", 5, -1, 31, 1);
        immediateInt("int down by 31 with sign", 5, 0x80000000L, 1024 + 31, -1);
        illegal("by w[31:26] 1", Rig.i(19, 3, 1, 1, 64));
        illegal("by w[31:26] 16", Rig.i(19, 3, 1, 1, 1024));
        illegal("down by w[31:26] 1", Rig.i(19, 3, 5, 1, 64));
        illegal("down by w[31:26] 17", Rig.i(19, 3, 5, 1, 1088));
        illegal("down by w[31:26] 32", Rig.i(19, 3, 5, 1, -2048));
        illegal("int by 32", Rig.i(27, 3, 1, 1, 32));
        illegal("int down by 32", Rig.i(27, 3, 5, 1, 32));
        illegal("int down by 32 with sign", Rig.i(27, 3, 5, 1, 1024 + 32));
        illegal("int by g 32", Rig.i(27, 3, 1, 1, 1024));
        for (int f : new int[] {2, 3, 4, 6, 7}) {
            illegal("27 with f " + f, Rig.i(27, 3, f, 1, 0));
        }
    }

    private static void upperProducts() {
        longs("the least by itself", 1, 1, MIN, MIN, 1L << 62);
        longs("-1 by -1", 1, 1, -1, -1, 0);
        longs("-1 by 1", 1, 1, -1, 1, -1);
        longs("the greatest by itself", 1, 1, MAX, MAX, (1L << 62) - 1);
        longs("-1 by the greatest without sign", 1, 2, -1, -1, -1);
        longs("the least by the greatest without sign", 1, 2, MIN, -1, MIN);
        longs("1 by the greatest without sign", 1, 2, 1, -1, 0);
        longs("the greatest without sign by itself", 1, 3, -1, -1, -2);
        longs("2^63 by 2, both without sign", 1, 3, MIN, 2, 1);
    }

    // "by 0 the quotient is -1 (all bits 1), the rest what was to be divided; the least number by -1 is itself".

    private static void quotients() {
        longs("by 0", 1, 4, 7, 0, -1);
        longs("0 by 0", 1, 4, 0, 0, -1);
        longs("by 0 unsigned", 1, 5, 7, 0, -1);
        longs("the rest by 0", 1, 6, -7, 0, -7);
        longs("the rest by 0 unsigned", 1, 7, -7, 0, -7);
        longs("the least by -1", 1, 4, MIN, -1, MIN);
        longs("its rest", 1, 6, MIN, -1, 0);
        longs("the least by -1 unsigned", 1, 5, MIN, -1, 0);
        longs("its rest unsigned", 1, 7, MIN, -1, MIN);
        longs("-1 by -1 unsigned", 1, 5, -1, -1, 1);
        longs("-1 by 1 unsigned", 1, 5, -1, 1, -1);
        longs("-1 by 2 unsigned", 1, 5, -1, 2, MAX);
        longs("the rest of -1 by the least unsigned", 1, 7, -1, MIN, MAX);
        longs("rounded towards 0", 1, 4, -7, 2, -3);
        longs("what is left then", 1, 6, -7, 2, -1);
        longs("by a number below 0", 1, 4, 7, -2, -3);
        longs("what is left then", 1, 6, 7, -2, 1);
        ints("ints by 0", 1, 4, 7, 0, -1);
        ints("ints by 0, of which 32 bits count", 1, 4, 7, 1L << 32, -1);
        ints("ints by 0 unsigned", 1, 5, 7, 0, -1);
        ints("ints, the rest by 0", 1, 6, 0x1_80000000L, 0, LEAST);
        ints("ints, the rest by 0 unsigned", 1, 7, 0x80000000L, 0, LEAST);
        ints("the least int by -1", 1, 4, LEAST, -1, LEAST);
        ints("its rest", 1, 6, LEAST, -1, 0);
        ints("ints unsigned", 1, 5, -1, 1, -1);
        ints("ints unsigned by 2", 1, 5, -1, 2, MOST);
        ints("ints, the rest unsigned", 1, 7, -1, 0x80000000L, MOST);
        ints("ints rounded towards 0", 1, 4, -7, 2, -3);
        ints("ints, what is left", 1, 6, -7, 2, -1);
        for (int f = 1; f <= 3; f++) {
            illegal("59 with g 1 and f " + f, Rig.r(59, 3, f, 1, 1, 1));
        }
        for (int f : new int[] {2, 3, 4, 6, 7}) {
            illegal("59 with g 0 and f " + f, Rig.r(59, 3, f, 1, 1, 0));
        }
        for (int f : new int[] {1, 2, 3, 4, 6, 7}) {
            illegal("51 with g 32 and f " + f, Rig.r(51, 3, f, 1, 1, 32));
            illegal("59 with g 32 and f " + f, Rig.r(59, 3, f, 1, 1, 32));
        }
        for (int g : new int[] {2, 16, 31, 33, 64, 127}) {
            illegal("51 with g " + g, Rig.r(51, 3, 0, 1, 1, g));
            illegal("59 with g " + g, Rig.r(59, 3, 0, 1, 1, g));
        }
    }

    // "whatever isn't told here is ILLEGAL".

    private static void notTold() {
        illegal("103 with f 1", Rig.i(103, 3, 1, 1, 0));
        illegal("103 with f 7", Rig.i(103, 3, 7, 1, 0));
        illegal("3 with f 7", Rig.i(3, 3, 7, 1, 0));
        new Stage().with(1, DATA).run(Rig.i(3, 3, 6, 1, 0)).gives("3 with f 6", 3, 0);
        illegal("35 with f 4", Rig.s(35, 4, 1, 3, 0));
        illegal("35 with f 7", Rig.s(35, 7, 1, 3, 0));
        for (int f : new int[] {0, 1, 4, 5, 6, 7}) {
            illegal("47 with f " + f, Rig.r(47, 3, f, 1, 2, 0));
            illegal("7 with f " + f, Rig.i(7, 3, f, 1, 0));
            illegal("39 with f " + f, Rig.s(39, f, 1, 3, 0));
        }
        illegal("to reserve with b 1", Rig.amo(2, 8, 3, 1, 1));
        illegal("to reserve with b 31", Rig.amo(2, 4, 3, 1, 31));
        for (int sort : new int[] {5, 6, 7, 9, 11, 13, 17, 21, 25, 29, 30, 31}) {
            illegal("47 with w[31:27] " + sort, Rig.amo(sort, 8, 3, 1, 0));
        }
        for (int lowest = 1; lowest < 4; lowest++) {
            new Stage().with(1, DATA).run(Rig.amo(1, 8, 3, 1, 0) | lowest << 25).gives("w[26:25] " + lowest, 3, 0);
        }
        new Stage().with(3, 77).run(Rig.i(15, 3, 0, 1, -1)).gives("15 with f 0 changes nothing", 3, 77);
        new Stage().with(3, 77).run(Rig.i(15, 3, 1, 1, -1)).gives("15 with f 1 changes nothing", 3, 77);
        illegal("15 with f 2", Rig.i(15, 3, 2, 1, 0));
        illegal("15 with f 7", Rig.i(15, 3, 7, 1, 0));
        for (int code : new int[] {11, 31, 43, 63, 87, 91, 95, 107, 119, 123, 127}) {
            illegal("the code " + code, Rig.i(code, 3, 0, 1, 0));
        }
    }

    // Part 2.

    private static void none(String what, int h) {
        new Stage().with(2, DATA).runHalves(h).due(what, 2, h);
    }

    private static int first(int group, int rest) {
        return group << 13 | rest;
    }

    private static void formsThatAreNone() {
        none("the half 0", 0);
        none("i 0 with s 15", 7 << 2);
        none("0, group 4", first(4, 0));
        none("0, group 4, with all other bits", first(4, 0x1FFC));
        none("1, group 1 with r 0", first(1, 1));
        none("1, group 1 with r 0 and n -1", first(1, 0x107D));
        none("1, group 3 with r 2 and i 0", first(3, 2 << 7 | 1));
        none("1, group 3 with r 0 and n 0", first(3, 1));
        none("1, group 3 with r 1 and n 0", first(3, 1 << 7 | 1));
        none("1, group 3 with r 31 and n 0", first(3, 31 << 7 | 1));
        none("1, group 4 with 1, 2", first(4, 1 << 12 | 3 << 10 | 2 << 5 | 1));
        none("1, group 4 with 1, 3", first(4, 1 << 12 | 3 << 10 | 3 << 5 | 1));
        none("2, group 2 with r 0", first(2, 2));
        none("2, group 2 with r 0 and an i", first(2, 0x107E));
        none("2, group 3 with r 0", first(3, 2));
        none("2, group 4 with r 0, q 0", first(4, 2));
    }

    private static Stage half(int h) {
        return new Stage().with(2, DATA).with(5, 100).with(8, DATA).with(9, 9).runHalves(h);
    }

    private static void gives(String what, int h, int r, long want) {
        Stage s = half(h).fine(what, 2);
        Rig.due(what, s.x(r), want);
    }

    private static void formsAtTheirEdges() {
        gives("the least i", first(0, 1 << 6), 8, DATA + 4);
        gives("the greatest i", first(0, 0x1FE0), 8, DATA + 1020);
        gives("n 31", first(0, 5 << 7 | 31 << 2 | 1), 5, 131);
        gives("n -32", first(0, 1 << 12 | 5 << 7 | 1), 5, 68);
        gives("n 0", first(0, 5 << 7 | 1), 5, 100);
        gives("r 0 with n 0 does nothing", first(0, 1), 0, 0);
        gives("r 0 with n 1 does nothing", first(0, 1 << 2 | 1), 0, 0);
        gives("INT (x + n)", first(1, 1 << 12 | 5 << 7 | 1), 5, 68);
        gives("n alone", first(2, 1 << 12 | 5 << 7 | 1), 5, -32);
        gives("r 0 gets n", first(2, 31 << 2 | 1), 0, 0);
        gives("the least of register 2", first(3, 1 << 12 | 2 << 7 | 1), 2, DATA - 512);
        gives("the greatest of register 2", first(3, 2 << 7 | 0x7D), 2, DATA + 496);
        gives("U 31", first(3, 5 << 7 | 31 << 2 | 1), 5, 31 << 12);
        gives("U -32", first(3, 1 << 12 | 5 << 7 | 1), 5, -32 << 12);
        gives("U with r 0", first(3, 1 << 2 | 1), 0, 0);
        gives("down by 0", first(4, 1 << 7 | 1), 9, 9);
        gives("down by 63", first(4, 1 << 12 | 1 << 7 | 31 << 2 | 1), 9, 0);
        gives("down by 32 with sign", first(4, 1 << 12 | 1 << 10 | 1 << 7 | 1), 9, 0);
        gives("and'd with -32", first(4, 1 << 12 | 2 << 10 | 1 << 7 | 1), 9, 0);
        gives("and'd with -1", first(4, 1 << 12 | 2 << 10 | 1 << 7 | 31 << 2 | 1), 9, 9);
        gives("by 0", first(0, 5 << 7 | 2), 5, 100);
        gives("by 63", first(0, 1 << 12 | 5 << 7 | 31 << 2 | 2), 5, 0);
        gives("by 32", first(0, 1 << 12 | 5 << 7 | 2), 5, 100L << 32);
        gives("r 0 by 1", first(0, 1 << 2 | 2), 0, 0);
        gives("r 0 gets another one", first(4, 5 << 2 | 2), 0, 0);
        gives("another one", first(4, 6 << 7 | 5 << 2 | 2), 6, 100);
        gives("both", first(4, 1 << 12 | 5 << 7 | 5 << 2 | 2), 5, 200);
    }

    private static void formsThatJump() {
        jumps("the farthest jump on", first(5, 0xFFD), 2046);
        jumps("the farthest jump back", first(5, 0x1001), -2048);
        jumps("a jump to itself", first(5, 1), 0);
        Stage s = new Stage().with(8, 0).runHalves(first(6, 0xC7D));
        Rig.due("the farthest branch on", s.machine.counter(0), CODE + 254);
        s = new Stage().with(8, 0).runHalves(first(6, 0x1001));
        Rig.due("the farthest branch back", s.machine.counter(0), CODE - 256);
        s = new Stage().with(8, 1).runHalves(first(6, 0x1001));
        Rig.due("no branch: by 2", s.machine.counter(0), CODE + 2);
        s = new Stage().with(8, 0).runHalves(first(7, 0x1001));
        Rig.due("no branch: by 2", s.machine.counter(0), CODE + 2);
        s = new Stage().with(5, 0x9001).runHalves(first(4, 5 << 7 | 2));
        Rig.due("a jump by a register", s.machine.counter(0), 0x9000);
        Rig.due("register 1 stays", s.x(1), 0);
        s = new Stage().with(5, 0x9001).runHalves(first(4, 1 << 12 | 5 << 7 | 2));
        Rig.due("a jump by a register", s.machine.counter(0), 0x9000);
        Rig.due("register 1 gets the counter and 2", s.x(1), CODE + 2);
        s = new Stage().with(1, 0x9000).runHalves(first(4, 1 << 12 | 1 << 7 | 2));
        Rig.due("by register 1 itself", s.machine.counter(0), 0x9000);
        Rig.due("which then gets the counter and 2", s.x(1), CODE + 2);
    }

    private static void jumps(String what, int h, int distance) {
        Stage s = new Stage().with(1, 77).runHalves(h);
        Rig.due(what, s.machine.counter(0), CODE + distance);
        Rig.due(what + " leaves register 1", s.x(1), 77);
    }

    private static void formsOfMemory() {
        Stage s = new Stage().memory(DATA + 248, 0x8877665544332211L).with(8, DATA).runHalves(first(3, 0x1C64));
        Rig.due("the greatest i of eight", s.x(9), 0x8877665544332211L);
        s = new Stage().memory(DATA + 120, 0x8877665544332211L).with(8, DATA).runHalves(first(2, 0x1C64));
        Rig.due("the greatest i of four, with sign", s.x(9), 0xFFFFFFFF88776655L);
        s = new Stage().memory(DATA + 504, 7).with(2, DATA).runHalves(first(3, 0x1000 | 5 << 7 | 0x7E));
        Rig.due("the greatest i of eight by register 2", s.x(5), 7);
        s = new Stage().memory(DATA + 248, 7L << 32).with(2, DATA).runHalves(first(2, 0x1000 | 5 << 7 | 0x7E));
        Rig.due("the greatest i of four by register 2", s.x(5), 7);
        s = new Stage().with(2, DATA).with(5, 7).runHalves(first(7, 0x1F80 | 5 << 2 | 2));
        Rig.due("the greatest i of a store of eight by register 2", s.machine.word(DATA + 504), 7);
        s = new Stage().with(2, DATA).with(5, -1).runHalves(first(6, 0x1F80 | 5 << 2 | 2));
        Rig.due("the greatest i of a store of four by register 2", s.machine.word(DATA + 252), 0xFFFFFFFFL);
        s = new Stage().memory(DATA, 7).with(2, DATA).runHalves(first(1, 2));
        Rig.due("floating register 0 by register 2", s.f(0), 7);
        new Stage().withoutFloats().with(2, DATA).runHalves(first(1, 2)).due("the same with FS 0", 2, first(1, 2));
        new Stage().with(2, 1).runHalves(first(3, 5 << 7 | 2)).due("a load that is not there", 5, 1);
    }

    public static void main(String[] args) {
        registerZero();
        counters();
        immediates();
        wraps();
        compares();
        branches();
        shifts();
        upperProducts();
        quotients();
        notTold();
        formsThatAreNone();
        formsAtTheirEdges();
        formsThatJump();
        formsOfMemory();
        Rig.finish("EdgesIntegerTest");
    }
}
