import java.math.BigInteger;
import java.util.Random;

/** Part 1 against numbers of any size. */
public final class IntegerTest {
    private static final Rig rig = new Rig(1);
    private static final Random random = new Random(7);
    private static final long[] EDGES = {0, 1, -1, 2, -2, 31, 32, 63, 64, Integer.MAX_VALUE, Integer.MIN_VALUE,
        0x80000000L, 0xFFFFFFFFL, 0x100000000L, Long.MAX_VALUE, Long.MIN_VALUE, Long.MIN_VALUE + 1, 0x7FFFFFFF00000000L};

    private static BigInteger big(long v) {
        return BigInteger.valueOf(v);
    }

    private static BigInteger bare(long v, int bits) {
        return big(v).mod(BigInteger.ONE.shiftLeft(bits));
    }

    private static long any() {
        return random.nextInt(3) == 0 ? EDGES[random.nextInt(EDGES.length)] : random.nextLong() >> random.nextInt(64);
    }

    /** What an instruction of code 51 (or, with 32 bits, 59) is due to give; null for none. */
    private static BigInteger expected(int g, int f, long x, long y, int bits) {
        BigInteger a = big(x), b = big(y), ua = bare(x, bits), ub = bare(y, bits);
        int s = (int) (y & bits - 1);
        boolean ints = bits == 32;
        switch (g << 3 | f) {
            case 0: return a.add(b);
            case 1: return a.shiftLeft(s);
            case 2: return ints ? null : big(a.compareTo(b) < 0 ? 1 : 0);
            case 3: return ints ? null : big(ua.compareTo(ub) < 0 ? 1 : 0);
            case 4: return ints ? null : a.xor(b);
            case 5: return ua.shiftRight(s);
            case 6: return ints ? null : a.or(b);
            case 7: return ints ? null : a.and(b);
            case 256: return a.subtract(b);
            case 261: return a.shiftRight(s);
            case 8: return a.multiply(b);
            case 9: return ints ? null : a.multiply(b).shiftRight(64);
            case 10: return ints ? null : a.multiply(ub).shiftRight(64);
            case 11: return ints ? null : ua.multiply(ub).shiftRight(64);
            case 12: return y == 0 ? big(-1) : a.divide(b);
            case 13: return y == 0 ? big(-1) : ua.divide(ub);
            case 14: return y == 0 ? a : a.remainder(b);
            case 15: return y == 0 ? a : ua.remainder(ub);
            default: return null;
        }
    }

    private static void check(String what, BigInteger want, int w) {
        String told = what + " " + Integer.toHexString(w) + " of " + rig.x(1) + ", " + rig.x(2);
        if (want == null) {
            Rig.due(told + " illegal", rig.csr(834), 2);
            Rig.due(told + " value", rig.csr(835), w & 0xFFFFFFFFL);
            Rig.due(told + " unchanged", rig.x(3), 77);
            Rig.due(told + " instructions", rig.csr(2818), 32);
        } else {
            Rig.due(told, rig.x(3), want.longValue());
            Rig.due(told + " counter", rig.machine.counter(0), Rig.BASE + 132);
            Rig.due(told + " instructions", rig.csr(2818), 33);
        }
    }

    private static void registers() {
        for (int g = 0; g < 128; g++) {
            for (int f = 0; f < 8; f++) {
                boolean told = g < 2 || g == 32;
                int pairs = EDGES.length * EDGES.length;
                for (int i = 0; i < (told ? pairs + 60 : 1); i++) {
                    long x = told && i < pairs ? EDGES[i % EDGES.length] : any();
                    long y = told && i < pairs ? EDGES[i / EDGES.length] : any();
                    int w = Rig.r(51, 3, f, 1, 2, g);
                    rig.exec(new long[] {x, y, 77}, w);
                    check("longs", expected(g, f, x, y, 64), w);
                    w = Rig.r(59, 3, f, 1, 2, g);
                    rig.exec(new long[] {x, y, 77}, w);
                    BigInteger want = expected(g, f, (int) x, (int) y, 32);
                    check("ints", want == null ? null : big(want.intValue()), w);
                }
            }
        }
    }

    private static BigInteger expectedImmediate(int f, long x, int imm) {
        int sixth = imm >> 6 & 63;
        int s = imm & 63;
        switch (f) {
            case 1: return sixth == 0 ? big(x).shiftLeft(s) : null;
            case 5: return sixth == 0 ? bare(x, 64).shiftRight(s) : sixth == 16 ? big(x).shiftRight(s) : null;
            default: return expected(0, f, x, imm, 64);
        }
    }

    private static BigInteger expectedImmediateInt(int f, long x, int imm) {
        int g = imm >> 5 & 127;
        int s = imm & 31;
        if (f == 0) {
            return big(big(x).add(big(imm)).intValue());
        }
        if (f == 1 && g == 0) {
            return big(big(x).shiftLeft(s).intValue());
        }
        if (f == 5 && g == 0) {
            return big(bare(x, 32).shiftRight(s).intValue());
        }
        return f == 5 && g == 32 ? big((int) x >> s) : null;
    }

    private static void immediates() {
        for (int f = 0; f < 8; f++) {
            for (int i = 0; i < 500; i++) {
                int imm = random.nextInt(4096) - 2048;
                if (i % 4 == 0) {
                    imm = random.nextInt(64) | (random.nextBoolean() ? 1024 : 0);
                }
                long x = any();
                int w = Rig.i(19, 3, f, 1, imm);
                rig.exec(new long[] {x, 0, 77}, w);
                check("immediate", expectedImmediate(f, x, imm), w);
                w = Rig.i(27, 3, f, 1, imm);
                rig.exec(new long[] {x, 0, 77}, w);
                check("immediate int", expectedImmediateInt(f, x, imm), w);
            }
        }
    }

    private static void uppers() {
        for (int i = 0; i < 200; i++) {
            int upper = i == 0 ? 0x80000 : random.nextInt(1 << 20);
            rig.exec(new long[] {0, 0, 77}, Rig.lui(3, upper));
            Rig.due("upper", rig.x(3), upper << 12);
            rig.exec(new long[] {0, 0, 77}, Rig.auipc(3, upper));
            Rig.due("upper and counter", rig.x(3), Rig.BASE + 128 + (upper << 12));
        }
    }

    private static void jumps() {
        long at = Rig.BASE + 128;
        for (int i = 0; i < 300; i++) {
            int distance = i == 0 ? -1048576 : i == 1 ? 1048574 : (random.nextInt(1 << 20) - (1 << 19)) * 2;
            rig.exec(new long[] {0, 0, 77}, Rig.jal(3, distance));
            Rig.due("jump", rig.machine.counter(0), at + distance);
            Rig.due("jump's register", rig.x(3), at + 4);
            int imm = random.nextInt(4096) - 2048;
            long x = any();
            rig.exec(new long[] {x, 0, 77}, Rig.jalr(3, 1, imm));
            Rig.due("jump by register", rig.machine.counter(0), x + imm & -2L);
            Rig.due("its register", rig.x(3), at + 4);
            rig.exec(new long[] {x, 0, 77}, Rig.jalr(1, 1, imm));
            Rig.due("jump by the register that it sets", rig.machine.counter(0), x + imm & -2L);
            Rig.due("that register", rig.x(1), at + 4);
        }
        for (int f = 1; f < 8; f++) {
            int w = Rig.i(103, 3, f, 1, 0);
            rig.exec(new long[] {0, 0, 77}, w);
            check("jump with f " + f, null, w);
        }
    }

    private static void branches() {
        long at = Rig.BASE + 128;
        for (int f = 0; f < 8; f++) {
            for (int i = 0; i < 150; i++) {
                long x = any(), y = i % 3 == 0 ? x : any();
                int distance = i == 0 ? -4096 : i == 1 ? 4094 : (random.nextInt(4096) - 2048) * 2;
                int w = Rig.branch(f, 1, 2, distance);
                rig.exec(new long[] {x, y, 77}, w);
                if (f == 2 || f == 3) {
                    check("branch", null, w);
                    continue;
                }
                int order = f < 6 ? Long.compare(x, y) : Long.compareUnsigned(x, y);
                boolean taken = f == 0 ? x == y : f == 1 ? x != y : (f & 1) == 0 ? order < 0 : order >= 0;
                Rig.due("branch " + f + " of " + x + ", " + y, rig.machine.counter(0), at + (taken ? distance : 4));
            }
        }
    }

    private static boolean isTold(int w) {
        int f = w >>> 12 & 7;
        switch (w & 127) {
            case 3: return f < 7;
            case 35: return f < 4;
            case 7: case 39: return false;
            case 15: return f < 2;
            case 55: case 23: case 111: case 99: case 103: case 19: case 27: case 51: case 59: case 47: case 115:
                return true;
            default: return false;
        }
    }

    private static void codes() {
        for (int code = 3; code < 128; code += 4) {
            for (int f = 0; f < 8; f++) {
                int w = Rig.i(code, 3, f, 1, 0);
                if (isTold(w)) {
                    continue;
                }
                rig.exec(new long[] {Rig.DATA, 0, 77}, w);
                check("code " + code, null, w);
            }
        }
        for (int f = 0; f < 2; f++) {
            int w = Rig.i(15, 3, f, 1, -1);
            rig.exec(new long[] {0, 0, 77}, w);
            check("fence", big(77), w);
        }
        int w = Rig.i(15, 3, 2, 1, 0);
        rig.exec(new long[] {0, 0, 77}, w);
        check("fence 2", null, w);
    }

    private static void memory() {
        long value = 0x8182838485868788L;
        for (int f = 0; f < 7; f++) {
            int n = 1 << (f & 3);
            for (int imm = -16; imm <= 16; imm++) {
                rig.longs(Rig.DATA + 0x200, value, ~value, value * 3, value * 5, value * 7, value * 11);
                long at = Rig.DATA + 0x210 + imm;
                BigInteger all = bare(rig.machine.word(at), 8 * n);
                rig.exec(new long[] {Rig.DATA + 0x210}, Rig.i(3, 3, f, 1, imm));
                long want = all.longValue();
                Rig.due("load " + f, rig.x(3), f > 3 ? want : want << 64 - 8 * n >> 64 - 8 * n);
                if (f < 4) {
                    long before = rig.machine.word(at);
                    rig.exec(new long[] {Rig.DATA + 0x210, 0x0123456789ABCDEFL}, Rig.s(35, f, 1, 2, imm));
                    long mask = n == 8 ? -1 : (1L << 8 * n) - 1;
                    Rig.due("store " + f, rig.machine.word(at), before & ~mask | 0x0123456789ABCDEFL & mask);
                    Rig.due("store leaves what is before", rig.machine.word(at - 8),
                            at == Rig.DATA + 0x200 ? 0 : rig.machine.word(at - 8));
                }
            }
        }
    }

    private static void zero() {
        rig.exec(new long[] {Rig.DATA, 5}, Rig.addi(0, 2, 3), Rig.ld(0, 1, 0), Rig.jal(0, 4), Rig.lui(0, 9),
                Rig.r(51, 0, 0, 2, 2, 1), Rig.csrrs(0, 3860, 0), Rig.amo(0, 8, 0, 1, 2), Rig.r(51, 4, 0, 0, 0, 0));
        Rig.due("register 0", rig.x(0), 0);
        Rig.due("twice register 0", rig.x(4), 0);
        Rig.due("counter", rig.machine.counter(0), Rig.BASE + 128 + 32);
        Rig.due("breaches", rig.machine.breaches(), 0);
    }

    public static void main(String[] args) {
        registers();
        immediates();
        uppers();
        jumps();
        branches();
        codes();
        memory();
        zero();
        Rig.finish("IntegerTest");
    }
}
