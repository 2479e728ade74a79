/** Part 3: each sentence that names a boundary case, with the bits and flags that it asks for. */
public final class EdgesFloatTest {
    private static final int NX = 1, UF = 2, OF = 4, DZ = 8, NV = 16;
    private static final long MINUS = 1L << 63;
    private static final long ONE = 0x3FF0000000000000L, TWO = 0x4000000000000000L, HALF = 0x3FE0000000000000L;
    private static final long INF = 0x7FF0000000000000L, MOST = INF - 1, LEAST = 1, NORMAL = 0x0010000000000000L;
    private static final long QUIET = 0x7FF8000000000000L, LOUD = 0x7FF0000000000001L;
    private static final long S_ONE = 0x3F800000L, S_INF = 0x7F800000L, S_QUIET = 0x7FC00000L, S_LOUD = 0x7F800001L;

    private static long boxed(long v) {
        return v | -1L << 32;
    }

    private static Stage run(int w, int mode, long x, long y, long z) {
        return new Stage().withFloat(1, x).withFloat(2, y).withFloat(3, z).withFloat(4, 77).with(7, 77).withControl(3, mode << 5)
                .run(w);
    }

    /** A result of doubles by the mode r, and the flags. */
    private static void gives(String what, int k, int r, long x, long y, long want, int flags) {
        Stage s = run(Rig.r(83, 4, r, 1, 2, k << 2 | 1), 0, x, y, 0).fine(what, 4);
        Rig.due(what, s.f(4), want);
        Rig.due(what + " flags", s.control(1), flags);
    }

    private static void single(String what, int k, int r, long x, long y, long want, int flags) {
        Stage s = run(Rig.r(83, 4, r, 1, 2, k << 2), 0, x, y, 0).fine(what, 4);
        Rig.due(what, s.f(4), boxed(want));
        Rig.due(what + " flags", s.control(1), flags);
    }

    private static void root(String what, int r, long x, long want, int flags) {
        Stage s = run(Rig.r(83, 4, r, 1, 0, 11 << 2 | 1), 0, x, 0, 0).fine(what, 4);
        Rig.due(what, s.f(4), want);
        Rig.due(what + " flags", s.control(1), flags);
    }

    private static void fused(String what, int code, int r, long[] xyz, long want, int flags) {
        Stage s = run(Rig.r(code, 4, r, 1, 2, 3 << 2 | 1), 0, xyz[0], xyz[1], xyz[2]).fine(what, 4);
        Rig.due(what, s.f(4), want);
        Rig.due(what + " flags", s.control(1), flags);
    }

    private static void integer(String what, int w, long x, long y, long want, int flags) {
        Stage s = run(w, 0, x, y, 0).fine(what, 4);
        Rig.due(what, s.x(7), want);
        Rig.due(what + " flags", s.control(1), flags);
    }

    private static void illegal(String what, int w, int mode) {
        Stage s = run(w, mode, boxed(S_ONE), boxed(S_ONE), 0).due(what, 2, w & 0xFFFFFFFFL);
        Rig.due(what + " leaves the register", s.f(4), 77);
        Rig.due(what + " leaves the flags", s.control(1), 0);
        Rig.due(what + " leaves FS", s.floatState(), 1);
    }

    // "where an instruction reads a single and they are not all 1, it reads the quiet one".

    private static void boxes() {
        single("a boxed one", 0, 0, boxed(S_ONE), boxed(0), S_ONE, 0);
        single("one with zeros above", 0, 0, S_ONE, boxed(0), S_QUIET, 0);
        single("one with one bit 0 above", 0, 0, S_ONE | -2L << 32, boxed(0), S_QUIET, 0);
        single("one with the highest bit 0", 0, 0, boxed(S_ONE) & ~MINUS, boxed(0), S_QUIET, 0);
        single("a signaling one that is not boxed is quiet", 0, 0, S_LOUD, boxed(0), S_QUIET, 0);
        single("the sign of one that is not boxed is 0", 4, 0, boxed(S_ONE), 0x80000000L, S_ONE, 0);
        single("one that is not boxed, with a sign", 4, 0, S_ONE, boxed(0x80000000L), S_QUIET | 0x80000000L, 0);
        integer("its sort", Rig.r(83, 7, 1, 1, 0, 28 << 2), S_ONE, 0, 1 << 9, 0);
        integer("its bits are as they are", Rig.r(83, 7, 0, 1, 0, 28 << 2), 0x80000001L, 0, 0xFFFFFFFF80000001L, 0);
        integer("as an integer it is no number", Rig.r(83, 7, 0, 1, 0, 24 << 2), S_ONE, 0, Integer.MAX_VALUE, NV);
        toDouble("in the other format it is no number", S_ONE, QUIET, 0);
    }

    // "TO ROUND a number x": modes 0 to 4, where two are as near.

    private static void ties() {
        long half = 0x3CA0000000000000L;
        long[] even = {ONE, ONE, ONE, ONE + 1, ONE + 1};
        long[] odd = {ONE + 2, ONE + 1, ONE + 1, ONE + 2, ONE + 2};
        long[] below = {ONE, ONE, ONE + 1, ONE, ONE + 1};
        for (int r = 0; r < 5; r++) {
            gives("a tie at an even one by " + r, 0, r, ONE, half, even[r], NX);
            gives("a tie at an odd one by " + r, 0, r, ONE + 1, half, odd[r], NX);
            gives("a tie below 0 by " + r, 0, r, ONE | MINUS, half | MINUS, below[r] | MINUS, NX);
            gives("what is exact by " + r, 0, r, ONE, ONE, TWO, 0);
        }
        gives("just above a tie", 0, 0, ONE, half + 1, ONE + 1, NX);
        gives("just below a tie", 0, 0, ONE, half - 1, ONE, NX);
        gives("just below a tie by 4", 0, 4, ONE, half - 1, ONE, NX);
        gives("far below", 0, 0, ONE, LEAST, ONE, NX);
        gives("far below by 3", 0, 3, ONE, LEAST, ONE + 1, NX);
        gives("far below, taken off, by 1", 1, 1, ONE, LEAST, ONE - 1, NX);
        gives("far below, taken off, by 3", 1, 3, ONE, LEAST, ONE, NX);
    }

    // "If that is 2^(G + 1) or more in size, OVERFLOW and INEXACT are raised".

    private static void overflows() {
        long[] above = {INF, MOST, MOST, INF, INF};
        long[] below = {INF, MOST, INF, MOST, INF};
        for (int r = 0; r < 5; r++) {
            gives("too large by " + r, 0, r, MOST, MOST, above[r], OF | NX);
            gives("too large below 0 by " + r, 0, r, MOST | MINUS, MOST | MINUS, below[r] | MINUS, OF | NX);
            single("a single too large by " + r, 2, r, boxed(0x7F7FFFFFL), boxed(0x40000000L), above[r] == INF ? S_INF : S_INF - 1,
                    OF | NX);
        }
        long half = 0x7C90000000000000L;
        gives("as near to 2^1024", 0, 0, MOST, half, INF, OF | NX);
        gives("as near to 2^1024 by 4", 0, 4, MOST, half, INF, OF | NX);
        gives("as near to 2^1024 by 1", 0, 1, MOST, half, MOST, NX);
        gives("as near to 2^1024 by 2", 0, 2, MOST, half, MOST, NX);
        gives("as near to 2^1024 by 3", 0, 3, MOST, half, INF, OF | NX);
        gives("nearer to the greatest one", 0, 0, MOST, half - 1, MOST, NX);
        gives("the greatest one itself", 0, 0, MOST, 0, MOST, 0);
        gives("2^1024 by 1", 2, 1, 0x7FE0000000000000L, TWO, MOST, OF | NX);
    }

    // "then UNDERFLOW, too, when x is less in size than 2^(1 - G), and still is when it is rounded ... of any k".

    private static void underflows() {
        long[] above = {0, 0, 0, LEAST, LEAST};
        long[] below = {0, 0, LEAST, 0, LEAST};
        for (int r = 0; r < 5; r++) {
            gives("half of the least one by " + r, 2, r, LEAST, HALF, above[r], UF | NX);
            gives("half of it below 0 by " + r, 2, r, LEAST | MINUS, HALF, below[r] | MINUS, UF | NX);
        }
        gives("what is exact is no underflow", 2, 0, NORMAL, HALF, NORMAL >> 1, 0);
        gives("the least one itself", 2, 0, LEAST, ONE, LEAST, 0);
        gives("rounded to 2^(1 - G), but not so of any k", 2, 0, NORMAL, ONE - 1, NORMAL, UF | NX);
        long eighth = 0xBFC0000000000000L, quarter = 0xBFD0000000000000L, minusHalf = 0xBFE0000000000000L;
        fused("rounded to it of any k", 67, 0, new long[] {LEAST, eighth, NORMAL}, NORMAL, NX);
        fused("a tie of any k goes to the even one", 67, 0, new long[] {LEAST, quarter, NORMAL}, NORMAL, NX);
        fused("a tie of any k by 4", 67, 4, new long[] {LEAST, quarter, NORMAL}, NORMAL, NX);
        fused("by 1 it is less", 67, 1, new long[] {LEAST, eighth, NORMAL}, NORMAL - 1, UF | NX);
        fused("by 2 it is less", 67, 2, new long[] {LEAST, eighth, NORMAL}, NORMAL - 1, UF | NX);
        fused("by 3 it is not", 67, 3, new long[] {LEAST, eighth, NORMAL}, NORMAL, NX);
        fused("by 3, where it is exact of any k", 67, 3, new long[] {LEAST, minusHalf, NORMAL}, NORMAL, UF | NX);
        gives("far too small by 3", 2, 3, LEAST, LEAST, LEAST, UF | NX);
        gives("far too small", 2, 0, LEAST, LEAST, 0, UF | NX);
        gives("far too small below 0", 2, 0, LEAST | MINUS, LEAST, MINUS, UF | NX);
        gives("2^(1 - G) is not small", 1, 0, NORMAL + 1, LEAST, NORMAL, 0);
    }

    // "What is raised is added to those that there are."

    private static void flagsAreAdded() {
        Stage s = new Stage().withFloat(1, ONE).withFloat(2, LEAST).withControl(1, 24).run(Rig.r(83, 4, 0, 1, 2, 1));
        Rig.due("added", s.control(1), 25);
        s = new Stage().withFloat(1, ONE).withFloat(2, ONE).withControl(1, 31).run(Rig.r(83, 4, 0, 1, 2, 1));
        Rig.due("none is taken off", s.control(1), 31);
    }

    // "by r, or by the mode when r is 7; if that is above 4, it is ILLEGAL"; "with another t it is ILLEGAL".

    private static void roundingModes() {
        int[] rounding = {0, 1, 2, 3, 8, 11, 24, 26};
        for (int k : rounding) {
            int b = k == 8 ? 1 : 0;
            for (int r = 5; r < 7; r++) {
                illegal("k " + k + " by " + r, Rig.r(83, 4, r, 1, b, k << 2), 0);
            }
            for (int mode = 5; mode < 8; mode++) {
                illegal("k " + k + " by the mode " + mode, Rig.r(83, 4, 7, 1, b, k << 2), mode);
                run(Rig.r(83, 4, 0, 1, b, k << 2), mode, ONE, ONE, 0).fine("by r 0 with the mode " + mode, 4);
            }
            run(Rig.r(83, 4, 7, 1, b, k << 2), 4, ONE, ONE, 0).fine("by the mode 4", 4);
        }
        for (int code = 67; code <= 79; code += 4) {
            illegal(code + " by 5", Rig.r(code, 4, 5, 1, 2, 3 << 2), 0);
            illegal(code + " by the mode 5", Rig.r(code, 4, 7, 1, 2, 3 << 2), 5);
            illegal(code + " with t 2", Rig.r(code, 4, 0, 1, 2, 3 << 2 | 2), 0);
            illegal(code + " with t 3", Rig.r(code, 4, 0, 1, 2, 3 << 2 | 3), 0);
        }
        for (int k : new int[] {0, 4, 5, 8, 20, 24, 28, 30}) {
            illegal("k " + k + " with t 2", Rig.r(83, 4, 0, 1, 0, k << 2 | 2), 0);
            illegal("k " + k + " with t 3", Rig.r(83, 4, 0, 1, 0, k << 2 | 3), 0);
        }
        Stage s = run(Rig.r(83, 4, 7, 1, 2, 1), 3, ONE, LEAST, 0);
        Rig.due("by the mode 3", s.f(4), ONE + 1);
        s = run(Rig.r(83, 4, 1, 1, 2, 1), 3, ONE, LEAST, 0);
        Rig.due("by r, whatever the mode", s.f(4), ONE);
    }

    private static void notTold() {
        for (int k : new int[] {6, 7, 9, 10, 12, 16, 19, 21, 22, 23, 25, 27, 29, 31}) {
            illegal("k " + k, Rig.r(83, 4, 0, 1, 0, k << 2), 0);
        }
        illegal("k 4 with r 3", Rig.r(83, 4, 3, 1, 2, 4 << 2), 0);
        illegal("k 4 with r 7", Rig.r(83, 4, 7, 1, 2, 4 << 2), 0);
        illegal("k 5 with r 2", Rig.r(83, 4, 2, 1, 2, 5 << 2), 0);
        illegal("k 20 with r 3", Rig.r(83, 4, 3, 1, 2, 20 << 2), 0);
        illegal("k 8 of singles with b 0", Rig.r(83, 4, 0, 1, 0, 8 << 2), 0);
        illegal("k 8 of singles with b 2", Rig.r(83, 4, 0, 1, 2, 8 << 2), 0);
        illegal("k 8 of doubles with b 1", Rig.r(83, 4, 0, 1, 1, 8 << 2 | 1), 0);
        illegal("the root with b 1", Rig.r(83, 4, 0, 1, 1, 11 << 2), 0);
        illegal("k 24 with b 4", Rig.r(83, 4, 0, 1, 4, 24 << 2), 0);
        illegal("k 24 with b 31", Rig.r(83, 4, 0, 1, 31, 24 << 2), 0);
        illegal("k 26 with b 4", Rig.r(83, 4, 0, 1, 4, 26 << 2), 0);
        illegal("k 28 with b 1", Rig.r(83, 4, 0, 1, 1, 28 << 2), 0);
        illegal("k 28 with r 2", Rig.r(83, 4, 2, 1, 0, 28 << 2), 0);
        illegal("k 30 with b 1", Rig.r(83, 4, 0, 1, 1, 30 << 2), 0);
        illegal("k 30 with r 1", Rig.r(83, 4, 1, 1, 0, 30 << 2), 0);
    }

    // k 4 and 5.

    private static void signs() {
        gives("a sign, whatever X is", 4, 0, LOUD, MINUS, LOUD | MINUS, 0);
        gives("not that of Y", 4, 1, LOUD | MINUS, MINUS, LOUD, 0);
        gives("both have 1", 4, 2, ONE | MINUS, QUIET | MINUS, ONE, 0);
        gives("just one has", 4, 2, 0, MINUS, MINUS, 0);
        single("a single's sign", 4, 1, boxed(S_LOUD), boxed(0), S_LOUD | 0x80000000L, 0);
    }

    private static void lessAndGreater() {
        gives("the less zero", 5, 0, 0, MINUS, MINUS, 0);
        gives("the less zero, the other way", 5, 0, MINUS, 0, MINUS, 0);
        gives("the greater zero", 5, 1, 0, MINUS, 0, 0);
        gives("the greater zero, the other way", 5, 1, MINUS, 0, 0, 0);
        gives("just one is a number", 5, 0, QUIET, ONE, ONE, 0);
        gives("just one is a number, the other way", 5, 1, ONE, QUIET | MINUS, ONE, 0);
        gives("just one is infinite", 5, 0, INF, QUIET, INF, 0);
        gives("the other is signaling", 5, 0, LOUD, ONE, ONE, NV);
        gives("the other is signaling, the other way", 5, 1, INF | MINUS, LOUD, INF | MINUS, NV);
        gives("none is", 5, 0, QUIET + 5, QUIET | MINUS, QUIET, 0);
        gives("none is, one is signaling", 5, 1, QUIET, LOUD, QUIET, NV);
        gives("infinite ones", 5, 0, INF, INF | MINUS, INF | MINUS, 0);
        gives("the greatest and the infinite one", 5, 1, MOST, INF, INF, 0);
        gives("those below 0", 5, 0, ONE | MINUS, TWO | MINUS, TWO | MINUS, 0);
        single("singles of which one is not boxed", 5, 0, S_ONE, boxed(S_INF), S_INF, 0);
    }

    // k 8.

    private static void otherFormat() {
        toSingle("too large", 0, MOST, S_INF, OF | NX);
        toSingle("too large by 1", 1, MOST, S_INF - 1, OF | NX);
        toSingle("too small", 0, NORMAL, 0, UF | NX);
        toSingle("too small by 3", 3, NORMAL, 1, UF | NX);
        toSingle("too small below 0 by 2", 2, NORMAL | MINUS, 0x80000001L, UF | NX);
        toSingle("the least single", 0, 0x36A0000000000000L, 1, 0);
        toSingle("half of it", 0, 0x3690000000000000L, 0, UF | NX);
        toSingle("half of it and more", 0, 0x3690000000000001L, 1, UF | NX);
        toSingle("a tie", 0, 0x3FF0000010000000L, S_ONE, NX);
        toSingle("a zero", 0, MINUS, 0x80000000L, 0);
        toSingle("an infinite one", 0, INF | MINUS, S_INF | 0x80000000L, 0);
        toSingle("no number", 0, QUIET | MINUS | 9, S_QUIET, 0);
        toSingle("a signaling one", 0, LOUD, S_QUIET, NV);
        toSingle("just below 2^128", 0, 0x47EFFFFFEFFFFFFFL, 0x7F7FFFFFL, NX);
        toSingle("as near to 2^128", 0, 0x47EFFFFFF0000000L, S_INF, OF | NX);
        toSingle("rounded to 2^-126 of any k", 0, 0x380FFFFFFFFFFFFFL, 0x00800000L, NX);
        toSingle("not so of any k", 0, 0x380FFFFFE0000000L, 0x00800000L, UF | NX);
        toDouble("the least single as a double", boxed(1), 0x36A0000000000000L, 0);
        toDouble("the greatest small one", boxed(0x007FFFFFL), 0x380FFFFFC0000000L, 0);
        toDouble("the greatest one", boxed(0x7F7FFFFFL), 0x47EFFFFFE0000000L, 0);
        toDouble("a zero below 0", boxed(0x80000000L), MINUS, 0);
        toDouble("infinite", boxed(S_INF), INF, 0);
        toDouble("signaling", boxed(S_LOUD), QUIET, NV);
        toDouble("quiet", boxed(0xFFC00001L), QUIET, 0);
    }

    private static void toSingle(String what, int r, long x, long want, int flags) {
        Stage s = run(Rig.r(83, 4, r, 1, 1, 8 << 2), 0, x, 0, 0).fine(what, 4);
        Rig.due(what, s.f(4), boxed(want));
        Rig.due(what + " flags", s.control(1), flags);
    }

    private static void toDouble(String what, long x, long want, int flags) {
        Stage s = run(Rig.r(83, 4, 0, 1, 0, 8 << 2 | 1), 0, x, 0, 0).fine(what, 4);
        Rig.due(what, s.f(4), want);
        Rig.due(what + " flags", s.control(1), flags);
    }

    // k 20.

    private static void compared(String what, int r, long x, long y, long want, int flags) {
        integer(what + ", r " + r, Rig.r(83, 7, r, 1, 2, 20 << 2 | 1), x, y, want, flags);
    }

    private static void compares() {
        compared("both zeros", 0, 0, MINUS, 1, 0);
        compared("both zeros", 1, MINUS, 0, 0, 0);
        compared("both zeros", 2, MINUS, 0, 1, 0);
        compared("infinite ones", 2, INF, INF, 1, 0);
        compared("infinite ones", 1, INF | MINUS, INF, 1, 0);
        compared("infinite ones", 0, INF, INF | MINUS, 0, 0);
        compared("a quiet one", 0, QUIET, ONE, 0, NV);
        compared("a quiet one", 1, ONE, QUIET, 0, NV);
        compared("a quiet one", 2, QUIET, QUIET, 0, 0);
        compared("a signaling one", 2, LOUD, ONE, 0, NV);
        compared("a signaling one", 2, QUIET, LOUD, 0, NV);
        compared("those below 0", 1, TWO | MINUS, ONE | MINUS, 1, 0);
        compared("the least ones", 1, LEAST | MINUS, LEAST, 1, 0);
        compared("as great", 0, ONE, ONE, 1, 0);
        compared("as great", 1, ONE, ONE, 0, 0);
    }

    // k 24: "the least or the greatest one that there is, and INVALID alone is raised".

    private static void toInteger(String what, int b, int r, long x, long want, int flags) {
        integer(what + ", b " + b + " by " + r, Rig.r(83, 7, r, 1, b, 24 << 2 | 1), x, 0, want, flags);
    }

    private static void toIntegers() {
        int most = Integer.MAX_VALUE, least = Integer.MIN_VALUE;
        toInteger("2^31 - 1", 0, 0, 0x41DFFFFFFFC00000L, most, 0);
        toInteger("2^31", 0, 0, 0x41E0000000000000L, most, NV);
        toInteger("2^31 - 0.5", 0, 0, 0x41DFFFFFFFE00000L, most, NV);
        toInteger("2^31 - 0.5", 0, 1, 0x41DFFFFFFFE00000L, most, NX);
        toInteger("2^31 - 0.5", 0, 2, 0x41DFFFFFFFE00000L, most, NX);
        toInteger("2^31 - 0.5", 0, 3, 0x41DFFFFFFFE00000L, most, NV);
        toInteger("-2^31", 0, 0, 0xC1E0000000000000L, least, 0);
        toInteger("-2^31 - 0.5", 0, 0, 0xC1E0000000100000L, least, NX);
        toInteger("-2^31 - 0.5", 0, 2, 0xC1E0000000100000L, least, NV);
        toInteger("-2^31 - 0.5", 0, 4, 0xC1E0000000100000L, least, NV);
        toInteger("-2^31 - 1", 0, 1, 0xC1E0000000200000L, least, NV);
        toInteger("2^32 - 1", 1, 0, 0x41EFFFFFFFE00000L, -1, 0);
        toInteger("2^32", 1, 0, 0x41F0000000000000L, -1, NV);
        toInteger("2^32 - 0.5", 1, 4, 0x41EFFFFFFFF00000L, -1, NV);
        toInteger("2^32 - 0.5", 1, 1, 0x41EFFFFFFFF00000L, -1, NX);
        toInteger("2^31 without sign", 1, 0, 0x41E0000000000000L, least, 0);
        toInteger("-1 without sign", 1, 0, ONE | MINUS, 0, NV);
        toInteger("-0.5 without sign", 1, 0, HALF | MINUS, 0, NX);
        toInteger("-0.5 without sign", 1, 2, HALF | MINUS, 0, NV);
        toInteger("-0.5 without sign", 1, 4, HALF | MINUS, 0, NV);
        toInteger("-0.5 without sign", 1, 3, HALF | MINUS, 0, NX);
        toInteger("-0 without sign", 1, 2, MINUS, 0, 0);
        toInteger("the least one below 0", 3, 2, LEAST | MINUS, 0, NV);
        toInteger("the least one below 0", 3, 1, LEAST | MINUS, 0, NX);
        toInteger("the greatest one below 2^63", 2, 0, 0x43DFFFFFFFFFFFFFL, 0x7FFFFFFFFFFFFC00L, 0);
        toInteger("2^63", 2, 0, 0x43E0000000000000L, Long.MAX_VALUE, NV);
        toInteger("-2^63", 2, 0, 0xC3E0000000000000L, Long.MIN_VALUE, 0);
        toInteger("the greatest one below -2^63", 2, 0, 0xC3E0000000000001L, Long.MIN_VALUE, NV);
        toInteger("2^63 without sign", 3, 0, 0x43E0000000000000L, Long.MIN_VALUE, 0);
        toInteger("the greatest one below 2^64", 3, 0, 0x43EFFFFFFFFFFFFFL, -2048, 0);
        toInteger("2^64", 3, 0, 0x43F0000000000000L, -1, NV);
        toInteger("-1 without sign", 3, 0, ONE | MINUS, 0, NV);
        toInteger("-2^63 without sign", 3, 0, 0xC3E0000000000000L, 0, NV);
        toInteger("1.5", 2, 0, 0x3FF8000000000000L, 2, NX);
        toInteger("2.5", 2, 0, 0x4004000000000000L, 2, NX);
        toInteger("2.5", 2, 4, 0x4004000000000000L, 3, NX);
        toInteger("-2.5", 2, 4, 0xC004000000000000L, -3, NX);
        toInteger("0.5", 2, 0, HALF, 0, NX);
        toInteger("just above 0.5", 2, 0, HALF + 1, 1, NX);
        toInteger("the least one", 2, 3, LEAST, 1, NX);
        long[] greatest = {most, -1, Long.MAX_VALUE, -1};
        long[] leasts = {least, 0, Long.MIN_VALUE, 0};
        for (int b = 0; b < 4; b++) {
            toInteger("infinite", b, 0, INF, greatest[b], NV);
            toInteger("infinite below 0", b, 0, INF | MINUS, leasts[b], NV);
            toInteger("quiet", b, 0, QUIET, greatest[b], NV);
            toInteger("quiet with the sign 1", b, 0, QUIET | MINUS, greatest[b], NV);
            toInteger("signaling", b, 0, LOUD, greatest[b], NV);
            toInteger("signaling with the sign 1", b, 0, LOUD | MINUS, greatest[b], NV);
            toInteger("the greatest one", b, 0, MOST, greatest[b], NV);
            toInteger("zero", b, 3, 0, 0, 0);
        }
    }

    // k 26: "of which 32 bits count for b 0 and 1"; "0 is the zero with the sign 0".

    private static void fromInteger(String what, int b, int r, long v, long want, int flags) {
        Stage s = new Stage().with(7, v).run(Rig.r(83, 4, r, 7, b, 26 << 2 | 1)).fine(what, 4);
        Rig.due(what + ", b " + b + " by " + r, s.f(4), want);
        Rig.due(what + " flags", s.control(1), flags);
    }

    private static void fromIntegers() {
        for (int b = 0; b < 4; b++) {
            fromInteger("0", b, 2, 0, 0, 0);
        }
        fromInteger("0 in 32 bits", 0, 2, 1L << 32, 0, 0);
        fromInteger("0 in 32 bits without sign", 1, 2, -1L << 32, 0, 0);
        fromInteger("-2^31", 0, 0, 0x1_80000000L, 0xC1E0000000000000L, 0);
        fromInteger("2^31 without sign", 1, 0, 0xFFFFFFFF80000000L, 0x41E0000000000000L, 0);
        fromInteger("-1", 0, 0, 0xFFFFFFFFL, ONE | MINUS, 0);
        fromInteger("2^32 - 1", 1, 0, -1, 0x41EFFFFFFFE00000L, 0);
        fromInteger("-2^63", 2, 0, Long.MIN_VALUE, 0xC3E0000000000000L, 0);
        fromInteger("2^63 without sign", 3, 0, Long.MIN_VALUE, 0x43E0000000000000L, 0);
        fromInteger("2^63 - 1", 2, 0, Long.MAX_VALUE, 0x43E0000000000000L, NX);
        fromInteger("2^63 - 1", 2, 1, Long.MAX_VALUE, 0x43DFFFFFFFFFFFFFL, NX);
        fromInteger("2^64 - 1", 3, 0, -1, 0x43F0000000000000L, NX);
        fromInteger("2^64 - 1", 3, 2, -1, 0x43EFFFFFFFFFFFFFL, NX);
        fromInteger("2^53 + 1", 2, 0, (1L << 53) + 1, 0x4340000000000000L, NX);
        fromInteger("2^53 + 1", 2, 4, (1L << 53) + 1, 0x4340000000000001L, NX);
        Stage s = new Stage().with(7, Integer.MAX_VALUE).run(Rig.r(83, 4, 0, 7, 0, 26 << 2));
        Rig.due("2^31 - 1 as a single", s.f(4), boxed(0x4F000000L));
        Rig.due("is not that", s.control(1), NX);
    }

    // k 28 and 30.

    private static void sorts() {
        long[] ones = {INF | MINUS, ONE | MINUS, LEAST | MINUS, MINUS, 0, LEAST, ONE, INF, LOUD, QUIET};
        for (int n = 0; n < 10; n++) {
            integer("sort " + n, Rig.r(83, 7, 1, 1, 0, 28 << 2 | 1), ones[n], 0, 1 << n, 0);
        }
        integer("the least with e above 0", Rig.r(83, 7, 1, 1, 0, 28 << 2 | 1), NORMAL, 0, 1 << 6, 0);
        integer("the greatest with e 0", Rig.r(83, 7, 1, 1, 0, 28 << 2 | 1), NORMAL - 1, 0, 1 << 5, 0);
        integer("a signaling one with the sign 1", Rig.r(83, 7, 1, 1, 0, 28 << 2 | 1), QUIET - 1 | MINUS, 0, 1 << 8, 0);
        integer("a quiet one with the sign 1", Rig.r(83, 7, 1, 1, 0, 28 << 2 | 1), -1, 0, 1 << 9, 0);
        Stage s = new Stage().with(7, 0x7_80000001L).run(Rig.r(83, 4, 0, 7, 0, 30 << 2));
        Rig.due("its lowest 32, boxed", s.f(4), boxed(0x80000001L));
        s = new Stage().with(7, LOUD).run(Rig.r(83, 4, 0, 7, 0, 30 << 2 | 1));
        Rig.due("all bits", s.f(4), LOUD);
        Rig.due("no flag", s.control(1), 0);
    }

    // ONES THAT ARE SPECIAL.

    private static void noNumbers() {
        for (int k = 0; k < 4; k++) {
            gives("quiet, k " + k, k, 0, QUIET | MINUS | 7, ONE, QUIET, 0);
            gives("quiet behind, k " + k, k, 0, ONE, QUIET | MINUS | 7, QUIET, 0);
            gives("signaling, k " + k, k, 0, LOUD, QUIET, QUIET, NV);
            gives("signaling behind, k " + k, k, 0, QUIET, LOUD | MINUS, QUIET, NV);
        }
        root("quiet", 0, QUIET | MINUS, QUIET, 0);
        root("signaling", 0, LOUD, QUIET, NV);
        for (int code = 67; code <= 79; code += 4) {
            fused("quiet Z of " + code, code, 0, new long[] {ONE, ONE, QUIET | MINUS}, QUIET, 0);
            fused("signaling Z of " + code, code, 0, new long[] {ONE, ONE, LOUD}, QUIET, NV);
            fused("quiet X of " + code, code, 0, new long[] {QUIET, ONE, ONE}, QUIET, 0);
            fused("signaling Y of " + code, code, 0, new long[] {QUIET, LOUD, ONE}, QUIET, NV);
            fused("zero times infinite of " + code, code, 0, new long[] {0, INF, ONE}, QUIET, NV);
            fused("infinite times zero, Z quiet, of " + code, code, 0, new long[] {INF, MINUS, QUIET}, QUIET, NV);
            fused("zero times infinite, Z signaling, of " + code, code, 0, new long[] {0, INF, LOUD}, QUIET, NV);
            fused("zero times quiet, Z infinite, of " + code, code, 0, new long[] {0, QUIET, INF}, QUIET, 0);
        }
    }

    private static void infiniteOnes() {
        gives("unlike signs added", 0, 0, INF, INF | MINUS, QUIET, NV);
        gives("like signs taken off", 1, 0, INF | MINUS, INF | MINUS, QUIET, NV);
        gives("like signs added", 0, 0, INF | MINUS, INF | MINUS, INF | MINUS, 0);
        gives("unlike signs taken off", 1, 0, INF, INF | MINUS, INF, 0);
        gives("an infinite one and another", 0, 0, MOST | MINUS, INF, INF, 0);
        gives("another less an infinite one", 1, 0, MOST, INF, INF | MINUS, 0);
        gives("zero times infinite", 2, 0, MINUS, INF, QUIET, NV);
        gives("infinite times zero", 2, 0, INF, 0, QUIET, NV);
        gives("infinite times another", 2, 0, INF, LEAST | MINUS, INF | MINUS, 0);
        gives("infinite times infinite", 2, 0, INF | MINUS, INF | MINUS, INF, 0);
        gives("infinite by infinite", 3, 0, INF, INF | MINUS, QUIET, NV);
        gives("infinite by another", 3, 0, INF, ONE | MINUS, INF | MINUS, 0);
        gives("infinite by zero", 3, 0, INF, MINUS, INF | MINUS, 0);
        gives("another by infinite", 3, 0, MOST | MINUS, INF, MINUS, 0);
        gives("zero by infinite", 3, 0, 0, INF | MINUS, MINUS, 0);
        gives("zero by zero", 3, 0, 0, MINUS, QUIET, NV);
        gives("another by zero", 3, 0, ONE, 0, INF, DZ);
        gives("another by the zero with 1", 3, 0, ONE, MINUS, INF | MINUS, DZ);
        gives("the least by zero", 3, 0, LEAST | MINUS, 0, INF | MINUS, DZ);
        gives("zero by another", 3, 0, 0, ONE | MINUS, MINUS, 0);
        gives("zero times another", 2, 0, MINUS, MOST, MINUS, 0);
        root("a root below 0", 0, ONE | MINUS, QUIET, NV);
        root("the root of the least below 0", 0, LEAST | MINUS, QUIET, NV);
        root("the root of the infinite one below 0", 0, INF | MINUS, QUIET, NV);
        root("the root of the zero with 1", 2, MINUS, MINUS, 0);
        root("the root of the zero with 0", 2, 0, 0, 0);
        root("the root of the infinite one", 0, INF, INF, 0);
        root("the root of 4", 0, 0x4010000000000000L, TWO, 0);
        root("the root of 2", 0, TWO, 0x3FF6A09E667F3BCDL, NX);
        root("the root of the least one", 0, LEAST, 0x1E60000000000000L, 0);
        root("the root of the greatest one", 0, MOST, 0x5FEFFFFFFFFFFFFFL, NX);
        fused("infinite ones of unlike signs", 67, 0, new long[] {INF, ONE, INF | MINUS}, QUIET, NV);
        fused("infinite ones of like signs", 67, 0, new long[] {INF, ONE, INF}, INF, 0);
        fused("of like signs, taken off", 71, 0, new long[] {INF, ONE, INF}, QUIET, NV);
        fused("of unlike signs, the product being taken off", 75, 0, new long[] {INF, ONE, INF}, QUIET, NV);
        fused("both taken off", 79, 0, new long[] {INF, ONE, INF}, INF | MINUS, 0);
        fused("Z alone is infinite", 71, 0, new long[] {MOST, MOST, INF}, INF | MINUS, 0);
    }

    /** "A sum that is 0". */
    private static void zeros() {
        for (int r = 0; r < 5; r++) {
            long unlike = r == 2 ? MINUS : 0;
            gives("two zeros with 1 by " + r, 0, r, MINUS, MINUS, MINUS, 0);
            gives("two zeros with 0 by " + r, 0, r, 0, 0, 0, 0);
            gives("zeros of unlike signs by " + r, 0, r, 0, MINUS, unlike, 0);
            gives("a number less itself by " + r, 1, r, ONE, ONE, unlike, 0);
            gives("zero less the zero with 1 by " + r, 1, r, 0, MINUS, 0, 0);
            gives("the zero with 1 less zero by " + r, 1, r, MINUS, 0, MINUS, 0);
            fused("a product that is 0 has its sign, by " + r, 67, r, new long[] {0, ONE | MINUS, MINUS}, MINUS, 0);
            fused("of unlike sign by " + r, 67, r, new long[] {0, ONE | MINUS, 0}, unlike, 0);
            fused("taken off, with Z, by " + r, 79, r, new long[] {0, ONE, 0}, MINUS, 0);
            fused("taken off, and Z, by " + r, 75, r, new long[] {0, ONE, MINUS}, MINUS, 0);
            fused("a product less itself by " + r, 71, r, new long[] {ONE, TWO, TWO}, unlike, 0);
            fused("itself less a product by " + r, 75, r, new long[] {ONE, TWO, TWO}, unlike, 0);
        }
    }

    /** "each rounded just once". */
    private static void onceRounded() {
        fused("what is left of a square", 71, 0, new long[] {ONE + 1, ONE + 1, ONE + 2}, 0x3970000000000000L, 0);
        fused("a product that is too large, but not with Z", 67, 0, new long[] {MOST, TWO, MOST | MINUS}, MOST, 0);
        fused("a product that is too small, and Z", 67, 3, new long[] {LEAST, LEAST, ONE}, ONE + 1, NX);
        fused("a product that is too small, taken off", 75, 3, new long[] {LEAST, LEAST, ONE}, ONE, NX);
    }

    public static void main(String[] args) {
        boxes();
        ties();
        overflows();
        underflows();
        flagsAreAdded();
        roundingModes();
        notTold();
        signs();
        lessAndGreater();
        otherFormat();
        compares();
        toIntegers();
        fromIntegers();
        sorts();
        noNumbers();
        infiniteOnes();
        zeros();
        onceRounded();
        Rig.finish("EdgesFloatTest");
    }
}
