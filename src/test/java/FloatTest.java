import java.math.BigInteger;
import java.util.Random;

/** Part 3 against exact arithmetic over whole numbers of any size. */
public final class FloatTest extends PlainFloats {
    private static final Rig rig = new Rig(1);
    private static final Random random = new Random(20261115);

    // Running one instruction: f1, f2, f3 are operands, x7 the integer; f4 and x8 get what comes out.

    private static long gotFloat, gotInteger, gotFlags;
    private static boolean gotIllegal;

    private static void runOne(int w, int mode, long a, long b, long c, long v) {
        rig.words(Rig.BASE,
                Rig.lui(5, 2), Rig.csrrs(0, 768, 5), Rig.csrrwi(0, 2, mode), Rig.auipc(6, 0),
                Rig.i(7, 1, 3, 6, 44), Rig.i(7, 2, 3, 6, 52), Rig.i(7, 3, 3, 6, 60), Rig.ld(7, 6, 68),
                Rig.csrrwi(0, 768, 0), Rig.csrrs(0, 768, 5), w, Rig.NOP, Rig.NOP, Rig.NOP,
                (int) a, (int) (a >>> 32), (int) b, (int) (b >>> 32), (int) c, (int) (c >>> 32), (int) v,
                (int) (v >>> 32));
        rig.machine.start();
        rig.machine.run(11);
        gotFloat = rig.f(4);
        gotInteger = rig.x(8);
        gotFlags = rig.csr(1);
        gotIllegal = rig.csr(834) == 2;
    }

    private static long[] edges() {
        long f = fractionBits();
        return new long[] {0, 1, 2, 3, (1L << f) - 1, 1L << f, (1L << f) + 1, one() - 1, one(), one() + 1,
            one() + (1L << f - 1), one() + (1L << f), infinity() - 1, infinity() - 2, infinity(), infinity() + 1,
            quiet(), quiet() + 1, infinity() - (1L << f), (long) (bias() + 31) << f, (long) (bias() + 32) << f,
            (long) (bias() + 63) << f, (long) (bias() + 64) << f, ((long) (bias() + 31) << f) - 1,
            ((long) (bias() + 32) << f) - 1, (long) (bias() - 1) << f, ((long) (bias() - 1) << f) + 1,
            (long) (bias() - 2) << f, (long) (bias() / 2) << f, (long) (bias() / 2 + 1) << f};
    }

    private static long operand(int i) {
        long[] e = edges();
        if (i < 2 * e.length) {
            return e[i / 2] | (i % 2 == 1 ? signBit() : 0);
        }
        long v = random.nextLong() & (single ? 0xFFFFFFFFL : -1L);
        int sort = random.nextInt(6);
        long mask = (1L << fractionBits()) - 1;
        if (sort == 0) {
            v &= signBit() | mask;
        } else if (sort == 1) {
            v = v & (signBit() | mask) | (long) (bias() - 3 + random.nextInt(7)) << fractionBits();
        } else if (sort == 2) {
            v = v & signBit() | e[random.nextInt(e.length)];
        } else if (sort == 3) {
            v &= ~mask | -1L << random.nextInt(fractionBits());
        }
        return v;
    }

    private static long anyOperand() {
        return operand(random.nextInt(4) == 0 ? random.nextInt(60) : 1000);
    }

    /** A third operand near to the product of two, so that most of both goes. */
    private static long nearProduct(long x, long y) {
        int keep = flags;
        long z = times(x, y);
        flags = keep;
        return (z ^ signBit()) + random.nextInt(3) - 1 & (single ? 0xFFFFFFFFL : -1L);
    }

    private static String told(String op, long x, long y, long z, int mode) {
        return (single ? "single " : "double ") + op + " " + Long.toHexString(x) + " " + Long.toHexString(y) + " "
                + Long.toHexString(z) + " mode " + mode;
    }

    private static void checkFloat(String op, long want, long x, long y, long z) {
        Rig.due(told(op, x, y, z, rm), gotFloat, boxed(want));
        Rig.due(told(op, x, y, z, rm) + " flags", gotFlags, flags);
        boolean soiled = rig.csr(768) < 0;
        Rig.due(told(op, x, y, z, rm) + " state", soiled);
    }

    private static void checkInteger(String op, long want, long x, long y) {
        Rig.due(told(op, x, y, 0, rm), gotInteger, want);
        Rig.due(told(op, x, y, 0, rm) + " flags", gotFlags, flags);
        Rig.due(told(op, x, y, 0, rm) + " state", (rig.csr(768) >>> 13 & 3) == (flags != 0 ? 3 : 1));
    }

    private static int word(int code, int k, int r, int b, int d) {
        return Rig.r(code, d, r, 1, b, k << 2 | (single ? 0 : 1));
    }

    private static void arithmetic(long x, long y, long z) {
        int r = random.nextBoolean() ? rm : 7;
        for (int k = 3; k >= 0; k--) {
            flags = 0;
            long minus = y ^ signBit();
            long want = k == 0 ? fused(x, one(), y) : k == 1 ? fused(x, one(), isNan(y) ? y : minus)
                    : k == 2 ? times(x, y) : divided(x, y);
            runOne(word(83, k, r, 2, 4), rm, boxed(x), boxed(y), boxed(z), 0);
            checkFloat("arithmetic " + k, want, x, y, 0);
        }
        for (int code = 67; code <= 79; code += 4) {
            flags = 0;
            long first = isNan(x) ? x : code >= 75 ? x ^ signBit() : x;
            long third = isNan(z) ? z : code == 71 || code == 79 ? z ^ signBit() : z;
            long want = fused(first, y, third);
            runOne(word(code, 3, r, 2, 4), rm, boxed(x), boxed(y), boxed(z), 0);
            checkFloat("fused " + code, want, x, y, z);
        }
        flags = 0;
        long want = root(x);
        runOne(word(83, 11, r, 0, 4), rm, boxed(x), 0, 0, 0);
        checkFloat("root", want, x, 0, 0);
    }

    private static void others(long x, long y) {
        for (int r = 0; r < 3; r++) {
            flags = 0;
            long sign = r == 0 ? y : r == 1 ? ~y : x ^ y;
            runOne(word(83, 4, r, 2, 4), rm, boxed(x), boxed(y), 0, 0);
            checkFloat("sign " + r, magnitude(x) | sign & signBit(), x, y, 0);
            flags = 0;
            long want = compared(x, y, r);
            runOne(word(83, 20, r, 2, 8), rm, boxed(x), boxed(y), 0, 0);
            checkInteger("compare " + r, want, x, y);
        }
        for (int r = 0; r < 2; r++) {
            flags = 0;
            long want = chosen(x, y, r);
            runOne(word(83, 5, r, 2, 4), rm, boxed(x), boxed(y), 0, 0);
            checkFloat("choose " + r, want, x, y, 0);
        }
        flags = 0;
        runOne(word(83, 28, 1, 0, 8), rm, boxed(x), 0, 0, 0);
        checkInteger("class", classed(x), x, 0);
        runOne(word(83, 28, 0, 0, 8), rm, boxed(x) ^ (single ? 1L << 40 : 0), 0, 0, 0);
        checkInteger("bits", single ? (int) x : x, x, 0);
    }

    /** x7 is where integers come from. */
    private static int fromSeven(int w) {
        return w & ~(31 << 15) | 7 << 15;
    }

    private static void integers(long v) {
        for (int b = 0; b < 4; b++) {
            flags = 0;
            long want = fromInteger(v, b);
            runOne(fromSeven(word(83, 26, rm, b, 4)), rm, 0, 0, 0, v);
            checkFloat("from integer " + b, want, v, 0, 0);
        }
        flags = 0;
        runOne(fromSeven(word(83, 30, 0, 0, 4)), rm, 0, 0, 0, v);
        checkFloat("give bits", v, v, 0, 0);
    }

    private static void toIntegers(long x) {
        int r = random.nextBoolean() ? rm : 7;
        for (int b = 0; b < 4; b++) {
            flags = 0;
            long want = toInteger(x, b);
            runOne(word(83, 24, r, b, 8), rm, boxed(x), 0, 0, 0);
            checkInteger("to integer " + b, want, x, 0);
        }
        flags = 0;
        boolean from = single;
        single = !from;
        long want = converted(x, from);
        int w = word(83, 8, r, single ? 1 : 0, 4);
        runOne(w, rm, from ? x & 0xFFFFFFFFL | -1L << 32 : x, 0, 0, 0);
        checkFloat("convert", want, x, 0, 0);
        single = from;
    }

    private static void unboxed() {
        single = true;
        rm = 0;
        flags = 0;
        long one = one();
        runOne(word(83, 0, 0, 2, 4), 0, one, boxed(one), 0, 0);
        checkFloat("unboxed sum", quiet(), one, one, 0);
        runOne(word(83, 0, 0, 2, 4), 0, boxed(one), one | -2L << 32, 0, 0);
        checkFloat("unboxed sum", quiet(), one, one, 0);
        runOne(word(83, 4, 0, 2, 4), 0, boxed(one), 1L << 31, 0, 0);
        checkFloat("sign of one that is not boxed", one, one, 0, 0);
        runOne(word(83, 4, 1, 2, 4), 0, 0, boxed(0), 0, 0);
        checkFloat("one that is not boxed with a sign", quiet() | 1L << 31, 0, 0, 0);
        runOne(word(83, 28, 1, 0, 8), 0, one, 0, 0, 0);
        checkInteger("class of one that is not boxed", 1 << 9, one, 0);
        single = false;
        runOne(word(83, 8, 0, 0, 4), 0, one, 0, 0, 0);
        checkFloat("double of one that is not boxed", quiet(), one, 0, 0);
    }

    // Runs of instructions, one behind the other, over all registers: nothing of an earlier one is left in a later one.

    private static final int PRELUDE = 68, STEPS = 60;
    private static final long[] floats = new long[32], integers = new long[32];

    /** What an instruction reads of a register, in the format at hand. */
    private static long readFloat(int register) {
        long v = floats[register];
        return !single ? v : v >>> 32 == 0xFFFFFFFFL ? v & 0xFFFFFFFFL : quiet();
    }

    private static void anyRegisters() {
        for (int i = 0; i < 32; i++) {
            single = random.nextInt(3) > 0;
            floats[i] = boxed(anyOperand());
            if (random.nextInt(16) == 0) {
                floats[i] ^= 1L << 32 + random.nextInt(32);
            }
            integers[i] = i == 0 ? 0 : random.nextLong() >> random.nextInt(64);
        }
    }

    /** Sets all registers and starts; behind the prelude the steps stand, one word each. */
    private static void prepare(Rig one, int mode, int[] steps) {
        int[] words = new int[PRELUDE + steps.length];
        words[0] = Rig.lui(5, 2);
        words[1] = Rig.csrrs(0, 768, 5);
        words[2] = Rig.csrrwi(0, 2, mode);
        words[3] = Rig.auipc(31, 1);
        for (int i = 0; i < 32; i++) {
            words[4 + i] = Rig.i(7, i, 3, 31, 8 * i);
            words[36 + i] = Rig.ld(i, 31, 256 + 8 * i);
        }
        System.arraycopy(steps, 0, words, PRELUDE, steps.length);
        one.words(Rig.BASE, words);
        one.longs(Rig.BASE + 12 + 4096, floats);
        one.longs(Rig.BASE + 12 + 4096 + 256, integers);
        one.machine.start();
        one.machine.run(PRELUDE);
    }

    /** A random instruction that is not illegal. */
    private static int anyInstruction() {
        int t = random.nextInt(2), a = random.nextInt(32), b = random.nextInt(32), d = random.nextInt(32);
        int r = random.nextInt(3) == 0 ? 7 : random.nextInt(5);
        switch (random.nextInt(14)) {
            case 0: case 1: return Rig.r(83, d, r, a, b, random.nextInt(4) << 2 | t);
            case 2: case 3: return Rig.r(67 + 4 * random.nextInt(4), d, r, a, b, random.nextInt(32) << 2 | t);
            case 4: return Rig.r(83, d, r, a, 0, 11 << 2 | t);
            case 5: return Rig.r(83, d, random.nextInt(3), a, b, 4 << 2 | t);
            case 6: return Rig.r(83, d, random.nextInt(2), a, b, 5 << 2 | t);
            case 7: return Rig.r(83, d, r, a, 1 - t, 8 << 2 | t);
            case 8: return Rig.r(83, d, random.nextInt(3), a, b, 20 << 2 | t);
            case 9: return Rig.r(83, d, r, a, random.nextInt(4), 24 << 2 | t);
            case 10: return Rig.r(83, d, r, a, random.nextInt(4), 26 << 2 | t);
            case 11: return Rig.r(83, d, 0, a, 0, 30 << 2 | t);
            default: return Rig.r(83, d, random.nextInt(2), a, 0, 28 << 2 | t);
        }
    }

    private static long calculated(int w, int k) {
        long x = readFloat(w >>> 15 & 31), y = readFloat(w >>> 20 & 31), z = readFloat(k);
        int code = w & 127;
        if (code != 83) {
            long first = isNan(x) ? x : code >= 75 ? x ^ signBit() : x;
            return fused(first, y, isNan(z) ? z : code == 71 || code == 79 ? z ^ signBit() : z);
        }
        switch (k) {
            case 0: return fused(x, one(), y);
            case 1: return fused(x, one(), isNan(y) ? y : y ^ signBit());
            case 2: return times(x, y);
            default: return divided(x, y);
        }
    }

    private static void follow(int w, int mode) {
        int k = w >>> 27, r = w >>> 12 & 7, d = w >>> 7 & 31, a = w >>> 15 & 31, b = w >>> 20 & 31;
        single = (w >>> 25 & 3) == 0;
        rm = r == 7 ? mode : r;
        long x = readFloat(a), y = readFloat(b);
        boolean isArithmetic = (w & 127) != 83 || k < 4;
        if (isArithmetic) {
            floats[d] = boxed(calculated(w, k));
            return;
        }
        long before = floats[d];
        long integer = integers[d];
        switch (k) {
            case 4: floats[d] = boxed(magnitude(x) | (r == 0 ? y : r == 1 ? ~y : x ^ y) & signBit()); break;
            case 5: floats[d] = boxed(chosen(x, y, r)); break;
            case 8:
                single = !single;
                long other = readFloat(a);
                single = !single;
                floats[d] = boxed(converted(other, !single));
                break;
            case 11: floats[d] = boxed(root(x)); break;
            case 20: integer = compared(x, y, r); break;
            case 24: integer = toInteger(x, b); break;
            case 26: floats[d] = boxed(fromInteger(integers[a], b)); break;
            case 28: integer = r == 1 ? classed(x) : single ? (int) floats[a] : floats[a]; break;
            default: floats[d] = boxed(integers[a]); break;
        }
        boolean isInteger = k == 20 || k == 24 || k == 28;
        integers[d] = d == 0 ? 0 : integer;
        floats[d] = isInteger ? before : floats[d];
    }

    private static void sequences() {
        for (int i = 0; i < 400; i++) {
            int mode = random.nextInt(5);
            anyRegisters();
            int[] steps = new int[STEPS];
            for (int j = 0; j < STEPS; j++) {
                // Every fourth one clears the flags, so that one that is raised wrongly is seen.
                steps[j] = j % 4 == 3 ? Rig.csrrwi(0, 1, 0) : anyInstruction();
            }
            Rig one = new Rig(1);
            prepare(one, mode, steps);
            flags = 0;
            for (int j = 0; j < STEPS; j++) {
                one.machine.run(1);
                if (j % 4 == 3) {
                    flags = 0;
                } else {
                    follow(steps[j], mode);
                }
                String told = "step " + j + " of run " + i + ", " + Integer.toHexString(steps[j]);
                int d = steps[j] >>> 7 & 31;
                Rig.due(told + ": float", one.f(d), floats[d]);
                Rig.due(told + ": integer", one.x(d), integers[d]);
                Rig.due(told + ": flags", one.csr(1), flags);
            }
            for (int r = 0; r < 32; r++) {
                Rig.due("float " + r + " of run " + i, one.f(r), floats[r]);
                Rig.due("integer " + r + " of run " + i, one.x(r), integers[r]);
            }
            Rig.due("counter of run " + i, one.machine.counter(0), Rig.BASE + 4 * (PRELUDE + STEPS));
        }
    }

    /** A third operand that makes the sum just a number of the format: what is left of the product, or is missing. */
    private static void residuals() {
        for (int i = 0; i < 3000; i++) {
            single = i % 2 == 0;
            long mask = (1L << fractionBits()) - 1;
            long x = random.nextLong() & mask | (long) (bias() - 3 + random.nextInt(7)) << fractionBits();
            long y = random.nextLong() & mask | (long) (bias() - 3 + random.nextInt(7)) << fractionBits();
            rm = 1 + random.nextInt(3);
            long near = times(x, y);
            BigInteger left = exact(near).shiftLeft(1200).subtract(exact(x).multiply(exact(y)));
            rm = random.nextInt(5);
            flags = 0;
            long z = left.signum() == 0 ? 0 : round(left, ONE.shiftLeft(2400));
            if (i % 3 == 0) {
                z += random.nextInt(3) - 1;
            }
            flags = 0;
            long want = fused(x, y, z);
            runOne(word(67, 3, rm, 2, 4), rm, boxed(x), boxed(y), boxed(z), 0);
            checkFloat("residual", want, x, y, z);
        }
    }

    private static void illegal(String what, int w, int mode, boolean want) {
        runOne(w, mode, 0, 0, 0, 0);
        Rig.due(what + " illegal", gotIllegal == want);
        if (want) {
            Rig.due(what + " value", rig.csr(835), w & 0xFFFFFFFFL);
            Rig.due(what + " state", rig.csr(768) >>> 13 & 3, 1);
        }
    }

    private static void legality() {
        for (int k = 0; k < 32; k++) {
            for (int t = 0; t < 4; t++) {
                for (int r = 0; r < 8; r++) {
                    for (int b = 0; b < 6; b++) {
                        int mode = random.nextInt(8);
                        illegal("k " + k + " t " + t + " r " + r + " b " + b + " mode " + mode,
                                Rig.r(83, 4, r, 1, b, k << 2 | t), mode, !isLegal(k, t, r, b, mode));
                    }
                }
            }
        }
        for (int code = 67; code <= 79; code += 4) {
            for (int t = 0; t < 4; t++) {
                for (int r = 0; r < 8; r++) {
                    int mode = random.nextInt(8);
                    illegal("fused " + code, Rig.r(code, 4, r, 1, 2, 3 << 2 | t), mode,
                            t > 1 || (r == 7 ? mode : r) > 4);
                }
            }
        }
    }

    /** With the state 0 nothing of part 3 may be done. */
    private static void switchedOff() {
        int[] words = {Rig.r(83, 4, 0, 1, 2, 1), Rig.i(7, 1, 3, 1, 0), Rig.s(39, 3, 1, 1, 0), Rig.csrrs(5, 1, 0),
            Rig.csrrs(5, 2, 0), Rig.csrrwi(5, 3, 0), Rig.r(67, 4, 0, 1, 2, 1), Rig.i(7, 1, 3, 0, 1)};
        for (int w : words) {
            rig.exec(new long[] {Rig.DATA}, w);
            Rig.due("with the state 0, cause of " + Integer.toHexString(w), rig.csr(834), 2);
            Rig.due("with the state 0, value of " + Integer.toHexString(w), rig.csr(835), w & 0xFFFFFFFFL);
        }
    }

    private static void flagRegisters() {
        long[] registers = {0x2000, 0xFFL, -1L, 0x0FL};
        rig.exec(registers, Rig.csrrs(0, 768, 1), Rig.csrrw(5, 3, 2), Rig.csrrs(6, 3, 0), Rig.csrrs(7, 1, 0),
                Rig.csrrs(8, 2, 0), Rig.csrrc(9, 1, 4), Rig.csrrw(10, 2, 3), Rig.csrrw(11, 3, 3), Rig.csrrwi(12, 1, 1));
        Rig.due("register 3 before", rig.x(5), 0);
        Rig.due("register 3", rig.x(6), 255);
        Rig.due("register 1", rig.x(7), 31);
        Rig.due("register 2", rig.x(8), 7);
        Rig.due("register 1 before clearing", rig.x(9), 31);
        Rig.due("register 2 before writing", rig.x(10), 7);
        Rig.due("register 3 before writing", rig.x(11), 0xF0);
        Rig.due("register 1 before writing", rig.x(12), 31);
        Rig.due("register 3 at last", rig.csr(3), 0xE1);
        Rig.due("state", rig.csr(768) < 0);
        for (int v = 0; v < 256; v++) {
            rig.exec(new long[] {0x2000, v, 0x155 ^ v}, Rig.csrrs(0, 768, 1), Rig.csrrw(0, 3, 2), Rig.csrrs(5, 1, 0),
                    Rig.csrrs(6, 2, 0), Rig.csrrs(7, 3, 0), Rig.csrrw(0, 1, 3), Rig.csrrs(8, 3, 0), Rig.csrrw(0, 2, 3),
                    Rig.csrrs(9, 3, 0));
            Rig.due("flags of " + v, rig.x(5), v & 31);
            Rig.due("mode of " + v, rig.x(6), v >> 5);
            Rig.due("both of " + v, rig.x(7), v);
            Rig.due("flags alone over " + v, rig.x(8), v & 0xE0 | (0x155 ^ v) & 31);
            Rig.due("mode alone over " + v, rig.x(9), ((0x155 ^ v) & 7) << 5 | (0x155 ^ v) & 31);
        }
        rig.exec(registers, Rig.csrrs(0, 768, 1), Rig.csrrs(5, 3, 0));
        Rig.due("state behind reading alone", rig.csr(768) >>> 13 & 3, 1);
    }

    private static void loadsAndStores() {
        long v = 0x123456789ABCDEF0L;
        rig.longs(Rig.DATA + 0x100, v, 0, 0);
        rig.exec(new long[] {0x2000, Rig.DATA + 0x100}, Rig.csrrs(0, 768, 1), Rig.i(7, 1, 2, 2, 0), Rig.i(7, 2, 3, 2, 0),
                Rig.s(39, 2, 2, 2, 8), Rig.s(39, 3, 2, 1, 16));
        Rig.due("load of 4", rig.f(1), 0xFFFFFFFF9ABCDEF0L);
        Rig.due("load of 8", rig.f(2), v);
        Rig.due("store of 4", rig.machine.word(Rig.DATA + 0x108), 0x9ABCDEF0L);
        Rig.due("store of 8", rig.machine.word(Rig.DATA + 0x110), 0xFFFFFFFF9ABCDEF0L);
        Rig.due("state", rig.csr(768) < 0);
        rig.exec(new long[] {0x2000, Rig.DATA + 0x100}, Rig.csrrs(0, 768, 1), Rig.s(39, 3, 2, 1, 16));
        Rig.due("state behind a store", rig.csr(768) >>> 13 & 3, 1);
    }

    public static void main(String[] args) {
        for (int round = 0; round < 2; round++) {
            single = round == 0;
            for (int i = 0; i < 60; i++) {
                for (int j = 0; j < 60; j++) {
                    rm = random.nextInt(5);
                    long x = operand(i), y = operand(j);
                    arithmetic(x, y, anyOperand());
                    others(x, y);
                }
            }
            for (int i = 0; i < 4000; i++) {
                rm = random.nextInt(5);
                long x = anyOperand(), y = anyOperand();
                arithmetic(x, y, random.nextInt(3) == 0 && !isNan(x) && !isNan(y) ? nearProduct(x, y) : anyOperand());
                others(x, y);
            }
            for (int i = 0; i < 3000; i++) {
                rm = random.nextInt(5);
                toIntegers(i < 60 ? operand(i) : anyOperand());
                toIntegers((random.nextLong() & (1L << fractionBits()) - 1
                        | (long) (bias() - 2 + random.nextInt(68)) << fractionBits())
                        ^ (random.nextBoolean() ? signBit() : 0));
                integers(i < 64 ? 1L << i : i < 128 ? -1L >>> i : random.nextLong() >> random.nextInt(64));
            }
        }
        unboxed();
        sequences();
        residuals();
        legality();
        switchedOff();
        flagRegisters();
        loadsAndStores();
        Rig.finish("FloatTest");
    }
}
