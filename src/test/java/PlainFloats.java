import java.math.BigInteger;

/** Part 3 by exact arithmetic over whole numbers of any size: numbers are the bits of a format, flags gather. */
class PlainFloats {
    static final BigInteger ONE = BigInteger.ONE, ZERO = BigInteger.ZERO;
    static final int NX = 1, UF = 2, OF = 4, DZ = 8, NV = 16;

    // The format at hand, and what the reference leaves.
    static boolean single;
    static int rm;
    static int flags;

    static int fractionBits() {
        return single ? 23 : 52;
    }

    static int bias() {
        return single ? 127 : 1023;
    }

    static long signBit() {
        return single ? 1L << 31 : 1L << 63;
    }

    static long infinity() {
        return (2L * bias() + 1) << fractionBits();
    }

    static long quiet() {
        return infinity() | 1L << fractionBits() - 1;
    }

    static long magnitude(long v) {
        return v & signBit() - 1;
    }

    static boolean isNan(long v) {
        return magnitude(v) > infinity();
    }

    static boolean isSignaling(long v) {
        return isNan(v) && (v >>> fractionBits() - 1 & 1) == 0;
    }

    static boolean isInf(long v) {
        return magnitude(v) == infinity();
    }

    static boolean isNegative(long v) {
        return (v & signBit()) != 0;
    }

    /** The number times 2^1200, exactly. */
    static BigInteger exact(long v) {
        long m = magnitude(v);
        long e = m >>> fractionBits();
        long f = m & (1L << fractionBits()) - 1;
        BigInteger whole = BigInteger.valueOf(e == 0 ? f : f | 1L << fractionBits());
        whole = whole.shiftLeft((int) ((e == 0 ? 1 : e) - bias() - fractionBits()) + 1200);
        return isNegative(v) ? whole.negate() : whole;
    }

    /** n / d, not 0, rounded to the format. */
    static long round(BigInteger n, BigInteger d) {
        boolean negative = n.signum() < 0;
        BigInteger size = n.abs();
        int log = size.bitLength() - d.bitLength();
        if (compareToPower(size, d, log) < 0) {
            log--;
        }
        int least = 1 - bias();
        BigInteger free = onGrid(size, d, log - fractionBits(), negative);
        boolean tiny = compareToPower(size, d, least) < 0
                && free.compareTo(power(least - (log - fractionBits()))) < 0;
        int quantum = Math.max(log, least) - fractionBits();
        BigInteger k = onGrid(size, d, quantum, negative);
        boolean inexact = !scaled(size, d, quantum)[0].equals(k.multiply(scaled(size, d, quantum)[1]));
        long sign = negative ? signBit() : 0;
        if (k.bitLength() + quantum > bias() + 1) {
            flags |= OF | NX;
            boolean away = rm == 0 || rm == 4 || rm == 3 && !negative || rm == 2 && negative;
            return sign | (away ? infinity() : infinity() - 1);
        }
        if (inexact) {
            flags |= tiny ? NX | UF : NX;
        }
        if (k.bitLength() == fractionBits() + 2) {
            k = k.shiftRight(1);
            quantum++;
        }
        if (k.bitLength() <= fractionBits()) {
            return sign | k.longValue();
        }
        return sign | (long) (quantum + fractionBits() + bias()) << fractionBits()
                | k.longValue() & (1L << fractionBits()) - 1;
    }

    static BigInteger power(int n) {
        return n < 0 ? ZERO : ONE.shiftLeft(n);
    }

    static int compareToPower(BigInteger n, BigInteger d, int log) {
        return log >= 0 ? n.compareTo(d.shiftLeft(log)) : n.shiftLeft(-log).compareTo(d);
    }

    static BigInteger[] scaled(BigInteger n, BigInteger d, int quantum) {
        return quantum >= 0 ? new BigInteger[] {n, d.shiftLeft(quantum)} : new BigInteger[] {n.shiftLeft(-quantum), d};
    }

    static BigInteger onGrid(BigInteger n, BigInteger d, int quantum, boolean negative) {
        BigInteger[] s = scaled(n, d, quantum);
        BigInteger[] qr = s[0].divideAndRemainder(s[1]);
        int half = qr[1].shiftLeft(1).compareTo(s[1]);
        boolean some = qr[1].signum() != 0;
        boolean up;
        switch (rm) {
            case 0: up = half > 0 || half == 0 && qr[0].testBit(0); break;
            case 1: up = false; break;
            case 2: up = negative && some; break;
            case 3: up = !negative && some; break;
            default: up = half >= 0; break;
        }
        return up ? qr[0].add(ONE) : qr[0];
    }

    static long nanOf(long... operands) {
        for (long v : operands) {
            if (isSignaling(v)) {
                flags |= NV;
            }
        }
        return quiet();
    }

    static long invalid() {
        flags |= NV;
        return quiet();
    }

    static long fused(long x, long y, long z) {
        boolean xZero = magnitude(x) == 0, yZero = magnitude(y) == 0, zZero = magnitude(z) == 0;
        boolean negative = isNegative(x) ^ isNegative(y);
        if (xZero && isInf(y) || yZero && isInf(x)) {
            return invalid();
        }
        if (isNan(x) || isNan(y) || isNan(z)) {
            return nanOf(x, y, z);
        }
        if (isInf(x) || isInf(y)) {
            return isInf(z) && isNegative(z) != negative ? invalid() : infinity() | (negative ? signBit() : 0);
        }
        if (isInf(z)) {
            return z;
        }
        BigInteger sum = exact(x).multiply(exact(y)).add(exact(z).shiftLeft(1200));
        if (sum.signum() != 0) {
            return round(sum, ONE.shiftLeft(2400));
        }
        if ((xZero || yZero) && zZero && negative == isNegative(z)) {
            return z;
        }
        return rm == 2 ? signBit() : 0;
    }

    static long one() {
        return (long) bias() << fractionBits();
    }

    static long times(long x, long y) {
        boolean xZero = magnitude(x) == 0, yZero = magnitude(y) == 0;
        long sign = (x ^ y) & signBit();
        if (xZero && isInf(y) || yZero && isInf(x)) {
            return invalid();
        }
        if (isNan(x) || isNan(y)) {
            return nanOf(x, y);
        }
        if (isInf(x) || isInf(y)) {
            return sign | infinity();
        }
        return xZero || yZero ? sign : round(exact(x).multiply(exact(y)), ONE.shiftLeft(2400));
    }

    static long divided(long x, long y) {
        boolean xZero = magnitude(x) == 0, yZero = magnitude(y) == 0;
        long sign = (x ^ y) & signBit();
        if (isNan(x) || isNan(y)) {
            return nanOf(x, y);
        }
        if (xZero && yZero || isInf(x) && isInf(y)) {
            return invalid();
        }
        if (isInf(x)) {
            return sign | infinity();
        }
        if (yZero) {
            flags |= DZ;
            return sign | infinity();
        }
        if (xZero || isInf(y)) {
            return sign;
        }
        BigInteger n = exact(x), d = exact(y);
        return round(d.signum() < 0 ? n.negate() : n, d.abs());
    }

    static long root(long x) {
        if (isNan(x)) {
            return nanOf(x);
        }
        if (magnitude(x) == 0) {
            return x;
        }
        if (isNegative(x)) {
            return invalid();
        }
        if (isInf(x)) {
            return x;
        }
        // 400 bits more than are there, and half of the last one where the root goes on.
        BigInteger shifted = exact(x).shiftLeft(800);
        BigInteger floor = shifted.sqrt();
        BigInteger twice = floor.shiftLeft(1);
        if (!floor.multiply(floor).equals(shifted)) {
            twice = twice.add(ONE);
        }
        return round(twice, ONE.shiftLeft(1001));
    }

    static long converted(long v, boolean fromSingle) {
        boolean to = single;
        single = fromSingle;
        boolean nan = isNan(v), signaling = isSignaling(v), inf = isInf(v), negative = isNegative(v);
        boolean zero = magnitude(v) == 0;
        BigInteger n = exact(v);
        single = to;
        if (nan) {
            flags |= signaling ? NV : 0;
            return quiet();
        }
        long sign = negative ? signBit() : 0;
        return inf ? sign | infinity() : zero ? sign : round(n, ONE.shiftLeft(1200));
    }

    static long toInteger(long v, int b) {
        BigInteger least = b == 0 ? ONE.shiftLeft(31).negate() : b == 2 ? ONE.shiftLeft(63).negate() : ZERO;
        BigInteger most = ONE.shiftLeft(new int[] {31, 32, 63, 64}[b]).subtract(ONE);
        BigInteger result;
        if (isNan(v) || isInf(v)) {
            flags |= NV;
            result = isInf(v) && isNegative(v) ? least : most;
        } else {
            BigInteger n = exact(v);
            BigInteger size = onGrid(n.abs(), ONE.shiftLeft(1200), 0, isNegative(v));
            result = isNegative(v) ? size.negate() : size;
            if (result.compareTo(least) < 0 || result.compareTo(most) > 0) {
                flags |= NV;
                result = result.compareTo(least) < 0 ? least : most;
            } else if (!result.shiftLeft(1200).equals(n)) {
                flags |= NX;
            }
        }
        return b < 2 ? (int) result.longValue() : result.longValue();
    }

    static long fromInteger(long v, int b) {
        BigInteger n = BigInteger.valueOf(b == 0 ? (int) v : b == 1 ? v & 0xFFFFFFFFL : v);
        if (b == 3 && v < 0) {
            n = n.add(ONE.shiftLeft(64));
        }
        return n.signum() == 0 ? 0 : round(n, ONE);
    }

    static int order(long x, long y) {
        return exact(x).compareTo(exact(y));
    }

    static boolean isLess(long x, long y) {
        if (isInf(x) || isInf(y)) {
            long a = isNegative(x) ? -magnitude(x) : magnitude(x);
            long b = isNegative(y) ? -magnitude(y) : magnitude(y);
            return a < b;
        }
        return order(x, y) < 0;
    }

    static long compared(long x, long y, int r) {
        if (isNan(x) || isNan(y)) {
            flags |= r != 2 || isSignaling(x) || isSignaling(y) ? NV : 0;
            return 0;
        }
        boolean holds = r == 0 ? !isLess(y, x) : r == 1 ? isLess(x, y) : !isLess(x, y) && !isLess(y, x);
        return holds ? 1 : 0;
    }

    static long chosen(long x, long y, int r) {
        nanOf(x, y);
        if (isNan(x) || isNan(y)) {
            return isNan(x) && isNan(y) ? quiet() : isNan(x) ? y : x;
        }
        if (magnitude(x) == 0 && magnitude(y) == 0) {
            return r == 0 ? x | y : x & y;
        }
        boolean less = isLess(x, y);
        return less == (r == 0) ? x : y;
    }

    static long classed(long v) {
        boolean negative = isNegative(v);
        if (isNan(v)) {
            return isSignaling(v) ? 1 << 8 : 1 << 9;
        }
        if (isInf(v)) {
            return negative ? 1 : 1 << 7;
        }
        if (magnitude(v) == 0) {
            return negative ? 1 << 3 : 1 << 4;
        }
        boolean normal = magnitude(v) >>> fractionBits() != 0;
        return normal ? negative ? 1 << 1 : 1 << 6 : negative ? 1 << 2 : 1 << 5;
    }

    static long boxed(long v) {
        return single ? v & 0xFFFFFFFFL | -1L << 32 : v;
    }

    /** Whether an instruction of the code 83 with these fields is not illegal, the mode being as told. */
    static boolean isLegal(int k, int t, int r, int b, int mode) {
        boolean rounds = (r == 7 ? mode : r) <= 4;
        if (t > 1) {
            return false;
        }
        switch (k) {
            case 0: case 1: case 2: case 3: return rounds;
            case 4: return r <= 2;
            case 5: return r <= 1;
            case 8: return rounds && b == 1 - t;
            case 11: return rounds && b == 0;
            case 20: return r <= 2;
            case 24: case 26: return rounds && b <= 3;
            case 28: return b == 0 && r <= 1;
            case 30: return b == 0 && r == 0;
            default: return false;
        }
    }
}
