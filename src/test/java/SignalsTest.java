import java.util.ArrayDeque;
import java.util.Random;

/** Part 7 against a plain model of it, with random reads and writes; and INPUT, OUT and TIME. */
public final class SignalsTest {
    private static final int PROCESSORS = 2;
    private static final Rig rig = new Rig(PROCESSORS);
    private static final Random random = new Random(17);

    // The serial line.
    private static final ArrayDeque<Integer> in = new ArrayDeque<>(), input = new ArrayDeque<>();
    private static final StringBuilder out = new StringBuilder();
    private static boolean queue, overrun, emptied;
    private static int r1, r3, r4, r7, d0, d1;
    // The controller and the timer.
    private static final boolean[] waits = new boolean[32], served = new boolean[32];
    private static final int[] priority = new int[32];
    private static final int[] enables = new int[2 * PROCESSORS], threshold = new int[2 * PROCESSORS];
    private static final int[] soft = new int[PROCESSORS];
    private static final long[] compare = new long[PROCESSORS];
    private static long time;
    private static int rounds;

    private static int cause() {
        if ((r1 & 4) != 0 && overrun) {
            return 6;
        }
        if ((r1 & 1) != 0 && !in.isEmpty()) {
            return 4;
        }
        return (r1 & 2) != 0 && emptied ? 2 : 1;
    }

    private static void feel() {
        if (cause() != 1 && !waits[10] && !served[10]) {
            waits[10] = true;
        }
    }

    private static void come(int v) {
        if (in.size() < (queue ? 16 : 1)) {
            in.add(v);
        } else {
            overrun = true;
        }
    }

    private static int readSerial(int r) {
        boolean other = (r3 & 128) != 0;
        switch (r) {
            case 0: return other ? d0 : in.isEmpty() ? 0 : in.poll();
            case 1: return other ? d1 : r1;
            case 2:
                int c = cause();
                if (c == 2) {
                    emptied = false;
                }
                return c + (queue ? 192 : 0);
            case 3: return r3;
            case 4: return r4;
            case 5:
                int v = 96 + (in.isEmpty() ? 0 : 1) + (overrun ? 2 : 0);
                overrun = false;
                return v;
            case 6:
                if ((r4 & 16) == 0) {
                    return 176;
                }
                return ((r4 & 2) != 0 ? 16 : 0) + ((r4 & 1) != 0 ? 32 : 0) + ((r4 & 4) != 0 ? 64 : 0)
                        + ((r4 & 8) != 0 ? 128 : 0);
            case 7: return r7;
            default: return 0;
        }
    }

    private static void writeSerial(int r, int v) {
        boolean other = (r3 & 128) != 0;
        switch (r) {
            case 0:
                if (other) {
                    d0 = v;
                    break;
                }
                if ((r4 & 16) != 0) {
                    come(v);
                } else {
                    out.append((char) v);
                }
                emptied = true;
                break;
            case 1:
                if (other) {
                    d1 = v;
                    break;
                }
                emptied |= (v & 2) != 0 && (r1 & 2) == 0;
                r1 = v & 15;
                break;
            case 2:
                boolean to = (v & 1) != 0;
                if (to != queue || (v & 2) != 0) {
                    in.clear();
                }
                queue = to;
                break;
            case 3: r3 = v; break;
            case 4: r4 = v & 31; break;
            case 7: r7 = v; break;
            default: break;
        }
    }

    private static int claim(int c) {
        int best = 0;
        for (int s = 1; s < 32; s++) {
            if (waits[s] && (enables[c] >> s & 1) == 1 && priority[s] > priority[best]) {
                best = s;
            }
        }
        if (best != 0) {
            waits[best] = false;
            served[best] = true;
        }
        return best;
    }

    private static long readController(int at) {
        if (at < 128) {
            return at == 0 ? 0 : priority[at / 4];
        }
        if (at == 4096) {
            long v = 0;
            for (int s = 1; s < 32; s++) {
                v |= waits[s] ? 1L << s : 0;
            }
            return v;
        }
        for (int c = 0; c < 2 * PROCESSORS; c++) {
            if (at == 8192 + 128 * c) {
                return enables[c] & 0xFFFFFFFFL;
            }
            if (at == 2097152 + 4096 * c) {
                return threshold[c];
            }
            if (at == 2097156 + 4096 * c) {
                return claim(c);
            }
        }
        return 0;
    }

    private static void writeController(int at, int v) {
        if (at >= 4 && at < 128) {
            priority[at / 4] = v & 7;
        }
        for (int c = 0; c < 2 * PROCESSORS; c++) {
            if (at == 8192 + 128 * c) {
                enables[c] = v & ~1;
            }
            if (at == 2097152 + 4096 * c) {
                threshold[c] = v & 7;
            }
            if (at == 2097156 + 4096 * c && v > 0 && v < 32 && (enables[c] >> v & 1) == 1) {
                served[v] = false;
            }
        }
    }

    private static void ticks(int n) {
        for (int i = 0; i < n; i++) {
            rounds++;
            time += rounds % 10 == 0 ? 1 : 0;
            if (!input.isEmpty() && in.size() < (queue ? 16 : 1)) {
                in.add(input.poll());
            }
            feel();
        }
    }

    private static long lines(int h) {
        long v = soft[h] == 1 ? 8 : 0;
        v |= Long.compareUnsigned(time, compare[h]) >= 0 ? 128 : 0;
        for (int s = 1; s < 32; s++) {
            if (waits[s] && (enables[2 * h] >> s & 1) == 1 && priority[s] > threshold[2 * h]) {
                v |= 2048;
            }
            if (waits[s] && (enables[2 * h + 1] >> s & 1) == 1 && priority[s] > threshold[2 * h + 1]) {
                v |= 512;
            }
        }
        return v;
    }

    /** Only processor 0 comes to the access; the other one is stopped by a loop before it. */
    private static void access(boolean reads, long address, int n, long v) {
        int w = reads ? n == 8 ? Rig.ld(3, 1, 0) : Rig.i(3, 3, 4 + Rig.log(n), 1, 0) : Rig.store(n, 2, 1, 0);
        rig.words(Rig.BASE, Rig.branch(1, 10, 0, 0), Rig.auipc(31, 0x10), Rig.ld(1, 31, -4), Rig.ld(2, 31, 4), w);
        rig.longs(Rig.DATA, address, v);
        rig.machine.start();
        rig.machine.run(4);
        ticks(4);
        rig.machine.run(1);
    }

    private static void checkRead(long address, int n, long want) {
        access(true, address, n, 0);
        Rig.due("read of " + n + " at " + Long.toHexString(address), rig.x(3), want);
    }

    private static void checkAll() {
        feel();
        ticks(1);
        for (int h = 0; h < PROCESSORS; h++) {
            Rig.due("lines of " + h, rig.machine.control(h, 836), lines(h));
        }
        Rig.due("time", rig.machine.time(), time);
        Rig.due("input", rig.machine.waiting(), input.size());
        Rig.due("sent", rig.machine.sent(), out.length());
    }

    private static void serialStep() {
        int r = random.nextInt(9);
        if (random.nextInt(3) == 0) {
            r = random.nextInt(3);
        }
        if (random.nextBoolean()) {
            int size = random.nextInt(10) == 0 ? 2 : 1;
            access(true, Rig.SERIAL + r / size * size, size, 0);
            long want = size == 1 ? readSerial(r) : 0;
            Rig.due("serial register " + r, rig.x(3), want);
        } else {
            int v = random.nextInt(256);
            if (r == 3 && random.nextInt(4) > 0) {
                v &= 127;
            }
            if (r == 4 && random.nextBoolean()) {
                v &= 15;
            }
            int size = random.nextInt(10) == 0 ? 4 : 1;
            access(false, Rig.SERIAL + r / size * size, size, v | random.nextInt() << 8);
            if (size == 1) {
                writeSerial(r, v);
            }
        }
        checkAll();
    }

    private static int anyControllerPlace() {
        int c = random.nextInt(2 * PROCESSORS + 1);
        switch (random.nextInt(8)) {
            case 0: return 4 * random.nextInt(34);
            case 1: return 4096;
            case 2: return 8192 + 128 * c;
            case 3: return 2097152 + 4096 * c;
            case 4: return 40;
            case 5: return random.nextInt(1 << 20) * 4;
            default: return 2097156 + 4096 * c;
        }
    }

    private static void controllerStep() {
        int at = anyControllerPlace();
        if (random.nextBoolean()) {
            int size = random.nextInt(10) == 0 ? 8 : 4;
            at = at / size * size;
            access(true, Rig.CONTROLLER + at, size, 0);
            Rig.due("controller at " + at, rig.x(3), size == 4 ? readController(at) : 0);
        } else {
            int v = random.nextBoolean() ? 10 : random.nextBoolean() ? random.nextInt() | 1 << 10 : random.nextInt(40);
            access(false, Rig.CONTROLLER + at, 4, v);
            writeController(at, v);
        }
        checkAll();
    }

    private static void timerStep() {
        int h = random.nextInt(PROCESSORS + 1);
        int size = random.nextBoolean() ? 8 : random.nextInt(10) == 0 ? 2 : 4;
        int half = size == 4 ? random.nextInt(2) * 4 : 0;
        int sort = random.nextInt(3);
        int at = sort == 0 ? 4 * h : sort == 1 ? 16384 + 8 * h + half : 49144 + half;
        at = at / size * size;
        boolean reads = random.nextBoolean();
        long v = random.nextBoolean() ? random.nextInt(30) : random.nextLong();
        long low = half == 0 ? 0xFFFFFFFFL : 0xFFFFFFFFL << 32;
        if (sort == 0) {
            access(reads, Rig.TIMER + at, size, v);
            if (reads) {
                Rig.due("soft", rig.x(3), size == 4 && at / 4 < PROCESSORS ? soft[at / 4] : 0);
            } else if (size == 4 && at / 4 < PROCESSORS) {
                soft[at / 4] = (int) v & 1;
            }
        } else {
            access(reads, Rig.TIMER + at, size, v);
            long now = sort == 2 ? time : h < PROCESSORS ? compare[h] : 0;
            if (reads) {
                Rig.due("timer at " + at + " of " + size, rig.x(3),
                        size == 8 ? now : size == 4 ? now >>> 8 * half & 0xFFFFFFFFL : 0);
            } else if (size >= 4 && (sort == 2 || h < PROCESSORS)) {
                long next = size == 8 ? v : now & ~low | v << 8 * half & low;
                if (sort == 2) {
                    time = next;
                } else {
                    compare[h] = next;
                }
            }
        }
        checkAll();
    }

    private static void inputStep() {
        int n = random.nextInt(20);
        byte[] bytes = new byte[n];
        random.nextBytes(bytes);
        rig.feed(bytes);
        Rig.due("input taken", rig.machine.load(BoardMachine.INPUT, random.nextLong()), n);
        for (byte b : bytes) {
            input.add(b & 255);
        }
        Rig.due("input", rig.machine.waiting(), input.size());
    }

    private static void checkOut() {
        int n = out.length();
        for (int k = n - 20; k < n + 3; k++) {
            Rig.due("out " + k, rig.machine.out(k), k >= 0 && k < n ? out.charAt(k) : -1);
        }
        Rig.due("out -1", rig.machine.out(-1), -1);
    }

    private static void randomSteps() {
        java.util.Arrays.fill(compare, -1L);
        for (int i = 0; i < 12000; i++) {
            switch (random.nextInt(8)) {
                case 0: case 1: case 2: serialStep(); break;
                case 3: case 4: controllerStep(); break;
                case 5: timerStep(); break;
                case 6: if (input.size() < 40) { inputStep(); } break;
                default: writeBack(); break;
            }
            if (i % 100 == 0) {
                checkOut();
            }
        }
    }

    /** Leads the model, now and then, back to where sources wait and are served. */
    private static void writeBack() {
        access(false, Rig.CONTROLLER + 40, 4, 5);
        writeController(40, 5);
        checkAll();
        access(false, Rig.CONTROLLER + 8192 + 128, 4, 1 << 10);
        writeController(8192 + 128, 1 << 10);
        checkAll();
    }

    /** More than 4,096 bytes go out: the latest are kept. */
    private static void manyOut() {
        Rig other = new Rig(1);
        other.words(Rig.BASE, Rig.lui(1, 0x10000), Rig.store(1, 2, 1, 0), Rig.addi(2, 2, 1), Rig.jal(0, -8));
        other.machine.start();
        other.machine.run(10000);
        other.machine.run(5000);
        long sent = other.machine.sent();
        Rig.due("many sent", sent, 5000);
        Rig.due("the last one", other.machine.out(4999), 4999 & 255);
        Rig.due("the first one that is kept", other.machine.out(904), 904 & 255);
        Rig.due("one that is not", other.machine.out(903), -1);
        Rig.due("the first one", other.machine.out(0), -1);
        Rig.due("one to come", other.machine.out(5000), -1);
        Rig.due("far ones", other.machine.out(Long.MAX_VALUE) + other.machine.out(Long.MIN_VALUE), -2);
        other.machine.start();
        Rig.due("start keeps them", other.machine.sent(), 5000);
    }

    /** TIME counts rounds of all runs, but not those in which the machine ended. */
    private static void timeGoesOn() {
        Rig other = new Rig(1);
        other.words(Rig.BASE, Rig.jal(0, 0));
        other.machine.start();
        other.machine.run(9);
        Rig.due("time", other.machine.time(), 0);
        other.machine.start();
        other.machine.run(1);
        Rig.due("time", other.machine.time(), 1);
        other.machine.run(9);
        other.words(Rig.BASE, Rig.lui(1, 0x100), Rig.lui(2, 5), Rig.addi(2, 2, 0x555), Rig.store(4, 2, 1, 0));
        other.machine.start();
        Rig.due("ends", other.machine.run(10), 4);
        Rig.due("time", other.machine.time(), 2);
        other.words(Rig.BASE, Rig.jal(0, 0));
        other.machine.start();
        other.machine.run(7);
        Rig.due("time", other.machine.time(), 2);
        other.machine.run(1);
        Rig.due("time", other.machine.time(), 3);
    }

    /** A byte of INPUT that is not taken waits; none is lost. */
    private static void inputWaits() {
        Rig other = new Rig(1);
        other.feed(new byte[] {1, 2, 3});
        other.machine.load(BoardMachine.INPUT, 0);
        other.words(Rig.BASE, Rig.jal(0, 0));
        other.machine.start();
        other.machine.run(10);
        Rig.due("one came", other.machine.waiting(), 2);
        for (int i = 1; i <= 4; i++) {
            Rig.due("byte " + i, other.peek(Rig.SERIAL, 1), i < 4 ? i : 0);
        }
        Rig.due("no overrun", other.peek(Rig.SERIAL + 5, 1), 96);
        Rig.due("no breach", other.machine.breaches(), 0);
        other.poke(Rig.SERIAL + 2, 1, 1);
        byte[] many = new byte[20];
        other.feed(many);
        other.machine.load(BoardMachine.INPUT, 0);
        other.words(Rig.BASE, Rig.jal(0, 0));
        other.machine.run(50);
        Rig.due("sixteen came", other.machine.waiting(), 4);
    }

    private static void overruns() {
        Rig other = new Rig(1);
        other.poke(Rig.SERIAL + 1, 1, 4);
        other.poke(Rig.SERIAL + 4, 1, 16);
        other.poke(Rig.SERIAL, 1, 65);
        Rig.due("one came back", other.peek(Rig.SERIAL + 5, 1), 97);
        Rig.due("no cause", other.peek(Rig.SERIAL + 2, 1), 1);
        other.poke(Rig.SERIAL, 1, 66);
        Rig.due("cause", other.peek(Rig.SERIAL + 2, 1), 6);
        Rig.due("the first one is there", other.peek(Rig.SERIAL, 1), 65);
        Rig.due("the second one is not", other.peek(Rig.SERIAL, 1), 0);
        Rig.due("an overrun without bytes", other.peek(Rig.SERIAL + 5, 1), 98);
        Rig.due("it is told once", other.peek(Rig.SERIAL + 5, 1), 96);
        other.poke(Rig.SERIAL, 1, 65);
        other.poke(Rig.SERIAL, 1, 66);
        other.poke(Rig.SERIAL + 2, 1, 2);
        Rig.due("it stays when IN is emptied", other.peek(Rig.SERIAL + 5, 1), 98);
        Rig.due("nothing was OUT", other.machine.sent(), 0);
    }

    public static void main(String[] args) {
        randomSteps();
        overruns();
        manyOut();
        timeGoesOn();
        inputWaits();
        Rig.due("breaches", rig.machine.breaches(), 0);
        Rig.finish("SignalsTest");
    }
}
