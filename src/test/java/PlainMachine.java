import java.math.BigInteger;
import java.util.HashMap;
import java.util.Map;

/** The whole machine once more, but for images and the tree, as plainly as the document tells it. */
final class PlainMachine extends PlainBoard {
    private static final int FETCH = 0, LOAD = 1, STORE = 2;
    final Processor[] all;
    private int counted;

    PlainMachine(int processors) {
        super(processors);
        all = new Processor[processors];
        start();
    }

    void start() {
        for (int h = 0; h < processors; h++) {
            all[h] = new Processor(h);
            heldSize[h] = 0;
        }
        ended = false;
    }

    void load(long address, byte[] bytes) {
        for (int i = 0; i < bytes.length; i++) {
            put(address + i, 1, bytes[i]);
        }
    }

    int run(int rounds) {
        int made = 0;
        for (; made < rounds && !ended; made++) {
            for (Processor p : all) {
                if (!ended) {
                    p.step();
                }
            }
            if (!ended) {
                for (Processor p : all) {
                    p.keep(2816, p.kept(2816) + 1);
                }
                counted++;
                time += counted % 10 == 0 ? 1 : 0;
                inputComes();
            }
        }
        return made;
    }

    /** An exception of the document's: a cause and a value. */
    private static final class Trap extends RuntimeException {
        private static final long serialVersionUID = 1;
        final int cause;
        final long value;

        Trap(int cause, long value) {
            super(null, null, false, false);
            this.cause = cause;
            this.value = value;
        }
    }

    final class Processor {
        final int me;
        final long[] x = new long[32], f = new long[32];
        private final Map<Integer, Long> kept = new HashMap<>();
        private final int[] config = new int[8];
        private final long[] number = new long[8];
        long counter = BASE;
        int mode = 3;
        boolean isWaiting;
        private int flags, rounding;
        private long told;

        Processor(int me) {
            this.me = me;
            x[10] = me;
            x[11] = BASE + 4186112;
        }

        long kept(int k) {
            return kept.getOrDefault(k, 0L);
        }

        void keep(int k, long v) {
            kept.put(k, v);
        }

        private int status(int i) {
            return (int) (kept(768) >>> i & 1);
        }

        private void status(int i, int v) {
            keep(768, kept(768) & ~(1L << i) | (long) v << i);
        }

        private int mpp() {
            return status(11) + 2 * status(12);
        }

        private int fs() {
            return status(13) + 2 * status(14);
        }

        private void soil() {
            status(13, 1);
            status(14, 1);
        }

        private Trap illegal() {
            return new Trap(2, told);
        }

        // A STEP.

        void step() {
            if (isWaiting && (show(836) & kept(772)) == 0) {
                return;
            }
            isWaiting = false;
            int interrupt = toBeTaken();
            if (interrupt != 0) {
                trap(interrupt, true, 0);
                return;
            }
            try {
                int low = half(counter);
                int length = (low & 3) == 3 ? 4 : 2;
                int w = length == 2 ? FormsTest.expand(low) : half(counter + 2) << 16 | low;
                told = length == 2 ? low : w & 0xFFFFFFFFL;
                if (w == 0) {
                    throw illegal();
                }
                instruction(w, length);
                keep(2818, kept(2818) + 1);
            } catch (Trap t) {
                trap(t.cause, false, t.value);
            }
        }

        private int half(long a) {
            long p = find(a, 2, FETCH, mode);
            if (!areThere(p, 2)) {
                throw new Trap(1, a);
            }
            return (int) get(p, 2);
        }

        private void give(int d, long v) {
            x[d] = d == 0 ? 0 : v;
        }

        private void instruction(int w, int length) {
            int code = w & 127, d = w >>> 7 & 31, r = w >>> 12 & 7, a = w >>> 15 & 31, b = w >>> 20 & 31, g = w >>> 25;
            long i = w >> 20, s = w >> 25 << 5 | d, next = counter + length, xa = x[a], xb = x[b];
            switch (code) {
                case 55: give(d, w >> 12 << 12); break;
                case 23: give(d, counter + (w >> 12 << 12)); break;
                case 111:
                    give(d, next);
                    next = counter + (w >> 31 << 20 | w & 0xFF000 | (w >>> 20 & 1) << 11 | (w >>> 21 & 1023) << 1);
                    break;
                case 103:
                    if (r != 0) {
                        throw illegal();
                    }
                    give(d, next);
                    next = xa + i & ~1L;
                    break;
                case 99: next = isTaken(r, xa, xb) ? counter + branchDistance(w) : next; break;
                case 19: give(d, immediate(w, r, xa, i)); break;
                case 27: give(d, immediateInt(w, r, g, (int) xa, b, i)); break;
                case 51: give(d, calculated(g, r, xa, xb, 64)); break;
                case 59:
                    boolean isThere = g == 0 && (r < 2 || r == 5) || g == 32 || g == 1 && (r == 0 || r > 3);
                    if (!isThere) {
                        throw illegal();
                    }
                    give(d, (int) calculated(g, r, (int) xa, (int) xb, 32));
                    break;
                case 15:
                    if (r > 1) {
                        throw illegal();
                    }
                    break;
                case 3:
                    if (r == 7) {
                        throw illegal();
                    }
                    int bits = 64 - (8 << r % 4);
                    long v = loaded(xa + i, 1 << r % 4) << bits;
                    give(d, r > 3 ? v >>> bits : v >> bits);
                    break;
                case 35:
                    if (r > 3) {
                        throw illegal();
                    }
                    stored(xa + s, 1 << r, xb);
                    break;
                case 47: give(d, atomic(w >>> 27, r, xa, xb, b)); break;
                case 115: next = control(w, r, d, a, next); break;
                default: floating(w, code, r, d, xa); break;
            }
            counter = next;
        }

        private boolean isTaken(int r, long a, long b) {
            switch (r) {
                case 0: return a == b;
                case 1: return a != b;
                case 4: return a < b;
                case 5: return a >= b;
                case 6: return Long.compareUnsigned(a, b) < 0;
                case 7: return Long.compareUnsigned(a, b) >= 0;
                default: throw illegal();
            }
        }

        private long branchDistance(int w) {
            return w >> 31 << 12 | (w >>> 7 & 1) << 11 | (w >>> 25 & 63) << 5 | (w >>> 8 & 15) << 1;
        }

        private long immediate(int w, int r, long a, long i) {
            int shift = w >>> 20 & 63;
            if (r == 1 && w >>> 26 != 0 || r == 5 && w >>> 26 != 0 && w >>> 26 != 16) {
                throw illegal();
            }
            if (r == 1) {
                return a << shift;
            }
            return r != 5 ? calculated(0, r, a, i, 64) : w >>> 26 == 0 ? a >>> shift : a >> shift;
        }

        private long immediateInt(int w, int r, int g, int a, int shift, long i) {
            if (r == 0) {
                return (int) (a + i);
            }
            if (r == 1 && g == 0) {
                return a << shift;
            }
            if (r == 5 && (g == 0 || g == 32)) {
                return g == 0 ? a >>> shift : a >> shift;
            }
            throw illegal();
        }

        /** Of 64 bits, or of 32 for numbers that are ints. */
        private long calculated(int g, int r, long a, long b, int bits) {
            int s = (int) b & bits - 1;
            BigInteger all = BigInteger.ONE.shiftLeft(bits), x = BigInteger.valueOf(a), y = BigInteger.valueOf(b);
            BigInteger ux = x.mod(all), uy = y.mod(all);
            switch (g << 3 | r) {
                case 0: return a + b;
                case 1: return a << s;
                case 2: return a < b ? 1 : 0;
                case 3: return ux.compareTo(uy) < 0 ? 1 : 0;
                case 4: return a ^ b;
                case 5: return ux.shiftRight(s).longValue();
                case 6: return a | b;
                case 7: return a & b;
                case 256: return a - b;
                case 261: return a >> s;
                case 8: return a * b;
                case 9: return x.multiply(y).shiftRight(64).longValue();
                case 10: return x.multiply(uy).shiftRight(64).longValue();
                case 11: return ux.multiply(uy).shiftRight(64).longValue();
                case 12: return b == 0 ? -1 : x.divide(y).longValue();
                case 13: return b == 0 ? -1 : ux.divide(uy).longValue();
                case 14: return b == 0 ? a : x.remainder(y).longValue();
                case 15: return b == 0 ? a : ux.remainder(uy).longValue();
                default: throw illegal();
            }
        }

        // DATA.

        /** Where the bytes are: one place for all that are found as a whole, or one for each. */
        private long[] located(long a, int n, int access) {
            int dataMode = status(17) == 1 ? mpp() : mode;
            if ((a & 4095) <= 4096 - n) {
                long p = find(a, n, access, dataMode);
                if (!areThere(p, n) && !(isWindow(p) && a % n == 0)) {
                    throw new Trap(access == LOAD ? 5 : 7, a);
                }
                return new long[] {p};
            }
            long[] places = new long[n];
            for (int i = 0; i < n; i++) {
                places[i] = find(a + i, 1, access, dataMode);
            }
            for (int i = 0; i < n; i++) {
                if (!isThere(places[i])) {
                    throw new Trap(access == LOAD ? 5 : 7, a + i);
                }
            }
            return places;
        }

        private long loaded(long a, int n) {
            long[] places = located(a, n, LOAD);
            if (places.length == 1) {
                return isThere(places[0]) ? get(places[0], n) : read(places[0], n);
            }
            long v = 0;
            for (int i = 0; i < n; i++) {
                v |= get(places[i], 1) << 8 * i;
            }
            return v;
        }

        private void stored(long a, int n, long v) {
            long[] places = located(a, n, STORE);
            if (places.length == 1 && isThere(places[0])) {
                put(places[0], n, v);
            } else if (places.length == 1) {
                write(places[0], n, v);
            } else {
                for (int i = 0; i < n; i++) {
                    put(places[i], 1, v >>> 8 * i);
                }
            }
        }

        private long atomic(int sort, int r, long a, long with, int b) {
            boolean isThere = sort < 5 || sort % 4 == 0;
            if (r != 2 && r != 3 || !isThere || sort == 2 && b != 0) {
                throw illegal();
            }
            int n = 1 << r;
            if ((a & n - 1) != 0) {
                throw new Trap(sort == 2 ? 4 : 6, a);
            }
            long p = located(a, n, sort == 2 ? LOAD : STORE)[0];
            if (!areThere(p, n)) {
                throw new Trap(sort == 2 ? 5 : 7, a);
            }
            long there = n == 4 ? (int) get(p, 4) : get(p, 8);
            long w = n == 4 ? (int) with : with;
            if (sort == 2) {
                heldAt[me] = p;
                heldSize[me] = n;
                return there;
            }
            if (sort == 3) {
                boolean isHeld = heldSize[me] == n && heldAt[me] == p;
                heldSize[me] = 0;
                if (isHeld) {
                    put(p, n, w);
                }
                return isHeld ? 0 : 1;
            }
            boolean isLess = sort < 24 ? there < w : Long.compareUnsigned(there, w) < 0;
            long[] results = {there + w, 0, 0, 0, there ^ w, 0, 0, 0, there | w, 0, 0, 0, there & w};
            put(p, n, sort == 1 ? w : sort < 16 ? results[sort] : isLess == (sort == 16 || sort == 24) ? there : w);
            return there;
        }

        // Part 3.

        private void floating(int w, int code, int r, int d, long v) {
            boolean isData = code == 7 || code == 39, isFused = code >= 67 && code <= 79 && code % 4 == 3;
            if (!isData && !isFused && code != 83 || isData && r != 2 && r != 3 || fs() == 0) {
                throw illegal();
            }
            if (code == 7) {
                long got = loaded(v + (w >> 20), 1 << r);
                f[d] = r == 2 ? got | -1L << 32 : got;
                soil();
            } else if (code == 39) {
                stored(v + (w >> 25 << 5 | d), 1 << r, f[w >>> 20 & 31]);
            } else {
                calculation(w, isFused, r, d, v);
            }
        }

        private long operand(int register) {
            long v = f[register];
            return !PlainFloats.single ? v : v >>> 32 == 0xFFFFFFFFL ? v & 0xFFFFFFFFL : PlainFloats.quiet();
        }

        private void calculation(int w, boolean isFused, int r, int d, long v) {
            int k = w >>> 27, t = w >>> 25 & 3, b = w >>> 20 & 31, a = w >>> 15 & 31;
            if (!PlainFloats.isLegal(isFused ? 0 : k, t, r, b, rounding)) {
                throw illegal();
            }
            PlainFloats.single = t == 0;
            PlainFloats.rm = r == 7 ? rounding : r;
            PlainFloats.flags = 0;
            long xa = operand(a), xb = operand(b), sign = PlainFloats.signBit();
            boolean isInteger = !isFused && (k == 20 || k == 24 || k == 28);
            if (isFused) {
                long z = operand(k);
                int code = w & 127;
                f[d] = PlainFloats.boxed(PlainFloats.fused(code > 71 && !PlainFloats.isNan(xa) ? xa ^ sign : xa, xb,
                        (code == 71 || code == 79) && !PlainFloats.isNan(z) ? z ^ sign : z));
            } else if (isInteger) {
                give(d, k == 20 ? PlainFloats.compared(xa, xb, r) : k == 24 ? PlainFloats.toInteger(xa, b)
                        : r == 1 ? PlainFloats.classed(xa) : t == 0 ? (int) f[a] : f[a]);
            } else {
                f[d] = PlainFloats.boxed(single(k, t, r, a, b, v));
            }
            flags |= PlainFloats.flags;
            if (!isInteger || PlainFloats.flags != 0) {
                soil();
            }
        }

        private long single(int k, int t, int r, int a, int b, long v) {
            long xa = operand(a), xb = operand(b), sign = PlainFloats.signBit();
            switch (k) {
                case 0: return PlainFloats.fused(xa, PlainFloats.one(), xb);
                case 1: return PlainFloats.fused(xa, PlainFloats.one(), PlainFloats.isNan(xb) ? xb : xb ^ sign);
                case 2: return PlainFloats.times(xa, xb);
                case 3: return PlainFloats.divided(xa, xb);
                case 4: return xa & ~sign | (r == 0 ? xb : r == 1 ? ~xb : xa ^ xb) & sign;
                case 5: return PlainFloats.chosen(xa, xb, r);
                case 8:
                    PlainFloats.single = t == 1;
                    long other = operand(a);
                    PlainFloats.single = t == 0;
                    return PlainFloats.converted(other, t == 1);
                case 11: return PlainFloats.root(xa);
                case 26: return PlainFloats.fromInteger(v, b);
                default: return v;
            }
        }

        // Part 4 and CONTROL.

        private long control(int w, int r, int d, int a, long next) {
            int k = w >>> 20;
            if (r == 4) {
                throw illegal();
            }
            if (r == 0) {
                return system(k, d, a, next);
            }
            long operand = r > 4 ? a : x[a];
            boolean isWriting = r % 4 == 1 || a != 0;
            if (!mayAccess(k, isWriting)) {
                throw illegal();
            }
            long before = show(k);
            if (isWriting) {
                long has = k == 836 ? before & ~512L | kept(836) & 512 : before;
                change(k, r % 4 == 1 ? operand : r % 4 == 2 ? has | operand : has & ~operand);
            }
            give(d, before);
            return next;
        }

        private long system(int k, int d, int a, long next) {
            boolean isFence = k >= 288 && k <= 319;
            if (d != 0 || a != 0 && !isFence) {
                throw illegal();
            }
            if (k == 0) {
                throw new Trap(8 + mode, 0);
            }
            if (k == 1) {
                throw new Trap(3, counter);
            }
            if (k == 258 && (mode == 3 || mode == 1 && status(22) == 0)) {
                status(1, status(5));
                status(5, 1);
                mode = status(8);
                status(8, 0);
                status(17, 0);
                return kept(321);
            }
            if (k == 770 && mode == 3) {
                status(3, status(7));
                status(7, 1);
                mode = mpp();
                status(11, 0);
                status(12, 0);
                status(17, mode == 3 ? status(17) : 0);
                return kept(833);
            }
            if (k == 261 && (mode == 3 || mode == 1 && status(21) == 0)) {
                isWaiting = true;
                return next;
            }
            if (isFence && (mode == 3 || mode == 1 && status(20) == 0)) {
                return next;
            }
            throw illegal();
        }

        private boolean mayAccess(int k, boolean isWriting) {
            boolean isThere = k >= 1 && k <= 3 || k == 256 || k >= 260 && k <= 262 || k >= 320 && k <= 324 || k == 384
                    || k >= 768 && k <= 774 || k >= 832 && k <= 836 || k == 928 || k == 930 || k >= 944 && k <= 959
                    || k == 2816 || k == 2818 || k >= 3072 && k <= 3074 || k >= 3857 && k <= 3861;
            boolean isCount = k >= 3072 && k <= 3074;
            return isThere && (k >> 8 & 3) <= mode && !(isWriting && k >> 10 == 3)
                    && !(k == 384 && mode == 1 && status(20) == 1) && !(k < 4 && fs() == 0)
                    && !(isCount && mode < 3 && (kept(774) >> k - 3072 & 1) == 0)
                    && !(isCount && mode == 0 && (kept(262) >> k - 3072 & 1) == 0);
        }

        long show(int k) {
            long soiled = fs() == 3 ? 1L << 63 : 0;
            if (k >= 944 && k <= 951) {
                return number[k - 944];
            }
            switch (k) {
                case 1: return flags;
                case 2: return rounding;
                case 3: return flags + 32 * rounding;
                case 768: return kept(768) | 1L << 33 | 1L << 35 | soiled;
                case 256: return kept(768) & 0xC6122 | 1L << 33 | soiled;
                case 769: return 1L << 63 | 1 | 4 | 8 | 32 | 256 | 4096 | 1 << 18 | 1 << 20;
                case 260: return kept(772) & kept(771);
                case 836: return kept(836) | lines(me);
                case 324: return show(836) & kept(771);
                case 928:
                    long v = 0;
                    for (int i = 0; i < 8; i++) {
                        v |= (long) config[i] << 8 * i;
                    }
                    return v;
                case 3072: return kept(2816);
                case 3073: return time;
                case 3074: return kept(2818);
                case 3860: return me;
                default: return kept(k);
            }
        }

        private void blend(int k, long v, long mask) {
            keep(k, kept(k) & ~mask | v & mask);
        }

        private void change(int k, long v) {
            switch (k) {
                case 1: flags = (int) v & 31; soil(); break;
                case 2: rounding = (int) v & 7; soil(); break;
                case 3:
                    flags = (int) v & 31;
                    rounding = (int) v >> 5 & 7;
                    soil();
                    break;
                case 768: blend(768, v, (v >> 11 & 3) == 2 ? 0x7E61AA : 0x7E79AA); break;
                case 256: blend(768, v, 0xC6122); break;
                case 770: blend(770, v, 46079); break;
                case 771: blend(771, v, 546); break;
                case 772: blend(772, v, 2730); break;
                case 260: blend(772, v, kept(771)); break;
                case 836: blend(836, v, 546); break;
                case 324: blend(836, v, kept(771) & 2); break;
                case 773: case 261: keep(k, v & ~2L); break;
                case 833: case 321: keep(k, v & ~1L); break;
                case 774: case 262: keep(k, v & 7); break;
                case 384: keep(384, v >>> 60 == 0 || v >>> 60 == 8 || v >>> 60 == 9 ? v : kept(384)); break;
                case 320: case 322: case 323: case 832: case 834: case 835: case 2816: case 2818: keep(k, v); break;
                case 928: changeConfigs(v); break;
                default: changeNumber(k - 944, v); break;
            }
        }

        private void changeConfigs(long v) {
            for (int i = 0; i < 8; i++) {
                int c = (int) (v >>> 8 * i) & 0x9F;
                if (config[i] < 128) {
                    config[i] = (c & 2) != 0 && (c & 1) == 0 ? c - 2 : c;
                }
            }
        }

        private void changeNumber(int i, long v) {
            if (i >= 0 && i < 8 && config[i] < 128 && !(i < 7 && config[i + 1] >= 128 && (config[i + 1] >> 3 & 3) == 1)) {
                number[i] = v & (1L << 54) - 1;
            }
        }

        private void trap(int c, boolean isInterrupt, long v) {
            boolean isHanded = mode < 3 && (kept(isInterrupt ? 771 : 770) >> c & 1) == 1;
            int k = isHanded ? 321 : 833;
            keep(k, counter);
            keep(k + 1, c | (isInterrupt ? 1L << 63 : 0));
            keep(k + 2, v);
            if (isHanded) {
                status(8, mode);
                status(5, status(1));
                status(1, 0);
            } else {
                status(11, mode & 1);
                status(12, mode >> 1);
                status(7, status(3));
                status(3, 0);
            }
            mode = isHanded ? 1 : 3;
            long vectors = kept(isHanded ? 261 : 773);
            counter = (vectors & ~3L) + (isInterrupt && (vectors & 1) == 1 ? 4 * c : 0);
        }

        /** 0 for none. */
        private int toBeTaken() {
            for (int handed = 0; handed < 2; handed++) {
                for (int c : new int[] {11, 3, 7, 9, 1, 5}) {
                    boolean isReady = ((show(836) & kept(772)) >> c & 1) == 1;
                    boolean isMine = (kept(771) >> c & 1) == handed;
                    boolean isLet = handed == 0 ? mode < 3 || status(3) == 1 : mode == 0 || mode == 1 && status(1) == 1;
                    if (isReady && isMine && isLet) {
                        return c;
                    }
                }
            }
            return 0;
        }

        // Part 5.

        private boolean covers(int i, long at) {
            long n = 4 * number[i];
            switch (config[i] >> 3 & 3) {
                case 1: return at < n && at >= (i == 0 ? 0 : 4 * number[i - 1]);
                case 2: return at >= n && at < n + 4;
                case 3:
                    long ones = 1;
                    while (ones < 1L << 54 && (number[i] & ones) == ones) {
                        ones = 2 * ones + 1;
                    }
                    // The ones, and a zero above them, are the bits that tell no two addresses apart.
                    return (at >>> 2 & ~ones) == (number[i] & ~ones);
                default: return false;
            }
        }

        private boolean isLetThrough(long at, int n, int access, int m) {
            for (int i = 0; i < 8; i++) {
                int count = 0;
                for (int j = 0; j < n; j++) {
                    count += covers(i, at + j) ? 1 : 0;
                }
                if (count > 0) {
                    int right = access == LOAD ? 1 : access == STORE ? 2 : 4;
                    return count == n && (m == 3 && config[i] < 128 || (config[i] & right) != 0);
                }
            }
            return m == 3;
        }

        private long find(long a, int n, int access, int m) {
            Trap no = new Trap(access == FETCH ? 1 : access == LOAD ? 5 : 7, a);
            long p = m == 3 || kept(384) >>> 60 == 0 ? a : throughTable(a, access, m, no);
            if (p >>> 56 != 0 || !isLetThrough(p, n, access, m)) {
                throw no;
            }
            return p;
        }

        private long throughTable(long a, int access, int m, Trap no) {
            Trap fault = new Trap(access == FETCH ? 12 : access == LOAD ? 13 : 15, a);
            int depths = kept(384) >>> 60 == 8 ? 3 : 4;
            int unused = 64 - (9 * depths + 12);
            if (a << unused >> unused != a) {
                throw fault;
            }
            long page = kept(384) << 20 >>> 20;
            for (int i = depths - 1; i >= 0; i--) {
                long at = 4096 * page + 8 * (a >> 12 + 9 * i & 511);
                if (!areThere(at, 8) || !isLetThrough(at, 8, LOAD, 1)) {
                    throw no;
                }
                long e = get(at, 8);
                boolean isRead = (e & 2) != 0, isWritten = (e & 4) != 0, isRun = (e & 8) != 0, isUsers = (e & 16) != 0;
                page = e << 10 >>> 20;
                if ((e & 1) == 0 || isWritten && !isRead || e >>> 54 != 0) {
                    throw fault;
                }
                if (!isRead && !isRun) {
                    if (i == 0 || (e & 0xD0) != 0) {
                        throw fault;
                    }
                    continue;
                }
                boolean isMode = m == 0 ? isUsers : !isUsers || access != FETCH && status(18) == 1;
                boolean isRight = access == FETCH ? isRun : access == STORE ? isWritten : isRead || status(19) == 1;
                long within = (1L << 9 * i) - 1;
                if ((page & within) != 0 || !isMode || !isRight) {
                    throw fault;
                }
                long marks = access == STORE ? 0xC0 : 0x40;
                if ((e & marks) != marks) {
                    if (!isLetThrough(at, 8, STORE, 1)) {
                        throw no;
                    }
                    put(at, 8, e | marks);
                }
                return (page | a >> 12 & within) << 12 | a & 4095;
            }
            throw fault;
        }
    }
}
