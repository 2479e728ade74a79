/** What the tests share: a machine with short ways to feed and run it, words of instructions, and the counting of faults. */
final class Rig {
    static final long BASE = 1L << 31;
    static final long DATA = BASE + 0x10000;
    static final long END = 1048576, TIMER = 33554432, CONTROLLER = 201326592, SERIAL = 268435456, BLOCK = 268439552;
    private static int checked;
    private static int wrong;

    final BoardMachine machine;

    Rig(int processors) {
        machine = new BoardMachine(processors);
    }

    static void due(String what, long got, long want) {
        checked++;
        if (got != want) {
            wrong++;
            if (wrong <= 50) {
                System.out.println(what + " answered " + got + " (" + Long.toHexString(got) + "), due is " + want
                        + " (" + Long.toHexString(want) + ")");
            }
        }
    }

    static void due(String what, boolean got) {
        due(what, got ? 1 : 0, 1);
    }

    static void finish(String name) {
        System.out.println(name + ": " + checked + " checked, " + wrong + " wrong");
        if (wrong != 0 || checked == 0) {
            System.exit(1);
        }
    }

    // What a call throws.

    static final int STATE = 1, ARGUMENT = 2, INDEX = 3, OTHER = 4;

    interface Call {
        long make();
    }

    /** What a call throws: one of these just so, none of a class below them, which a program throws by itself alone. */
    static int thrown(Call call) {
        try {
            call.make();
        } catch (RuntimeException e) {
            Class<?> c = e.getClass();
            return c == IllegalStateException.class ? STATE : c == IllegalArgumentException.class ? ARGUMENT
                    : c == IndexOutOfBoundsException.class ? INDEX : OTHER;
        }
        return 0;
    }

    static void throwing(String what, int want, Call call) {
        due(what + " throws", thrown(call), want);
    }

    // Ways into the machine.

    void feed(byte[] bytes) {
        int[] five = new int[5];
        for (int begin = 0; begin < bytes.length; begin += 20) {
            // Twenty bytes always go; where they would not fit behind the others, the last of those go once more.
            int at = Math.min(begin, 65536 - 20);
            if (at < begin) {
                machine.end(at);
            }
            for (int i = 0; i < 20; i++) {
                int v = at + i < bytes.length ? bytes[at + i] & 255 : 0;
                five[i / 4] = five[i / 4] << 8 | v;
            }
            machine.feed(five[0], five[1], five[2], five[3], five[4]);
        }
        machine.end(bytes.length);
    }

    void bytes(long address, byte... bytes) {
        feed(bytes);
        machine.load(BoardMachine.BYTES, address);
    }

    void words(long address, int... words) {
        bytes(address, wordBytes(words));
    }

    void longs(long address, long... longs) {
        bytes(address, longBytes(longs));
    }

    static byte[] wordBytes(int... words) {
        byte[] bytes = new byte[4 * words.length];
        for (int i = 0; i < bytes.length; i++) {
            bytes[i] = (byte) (words[i / 4] >>> 8 * (i % 4));
        }
        return bytes;
    }

    static byte[] longBytes(long... longs) {
        byte[] bytes = new byte[8 * longs.length];
        for (int i = 0; i < bytes.length; i++) {
            bytes[i] = (byte) (longs[i / 8] >>> 8 * (i % 8));
        }
        return bytes;
    }

    long x(int r) {
        return machine.register(0, r);
    }

    long f(int r) {
        return machine.floating(0, r);
    }

    long csr(int k) {
        return machine.control(0, k);
    }

    int read(long address, int n) {
        return (int) (machine.word(address) & (n == 8 ? -1L : (1L << 8 * n) - 1));
    }

    /** Starts, with registers 1 .. 29 as told (from register 1 on), and runs words, each for one round. */
    void exec(long[] registers, int... words) {
        prepare(registers, words);
        machine.run(words.length);
    }

    /** Starts and runs up to the first of the words, which stand from BASE + 128 on. */
    void prepare(long[] registers, int... words) {
        int[] program = new int[32 + words.length];
        program[0] = auipc(31, 0x10);
        for (int i = 1; i < 32; i++) {
            program[i] = i <= registers.length ? ld(i, 31, 8 * (i - 1)) : NOP;
        }
        System.arraycopy(words, 0, program, 32, words.length);
        words(BASE, program);
        longs(DATA, registers);
        machine.start();
        machine.run(32);
    }

    /** Stores n bytes at an address, by processor 0 in machine mode. */
    void poke(long address, int n, long v) {
        exec(new long[] {address, v}, store(n, 2, 1, 0));
    }

    /** Loads n bytes, without sign, from an address, by processor 0 in machine mode. */
    long peek(long address, int n) {
        exec(new long[] {address}, n == 8 ? ld(3, 1, 0) : i(3, 3, 4 + (n == 1 ? 0 : n == 2 ? 1 : 2), 1, 0));
        return x(3);
    }

    // Words of instructions.

    static final int NOP = 19;

    static int i(int c, int d, int f, int a, int imm) {
        return c | d << 7 | f << 12 | a << 15 | imm << 20;
    }

    static int r(int c, int d, int f, int a, int b, int g) {
        return c | d << 7 | f << 12 | a << 15 | b << 20 | g << 25;
    }

    static int s(int c, int f, int a, int b, int imm) {
        return c | (imm & 31) << 7 | f << 12 | a << 15 | b << 20 | (imm >> 5) << 25;
    }

    static int addi(int d, int a, int imm) {
        return i(19, d, 0, a, imm);
    }

    static int lui(int d, int upper) {
        return 55 | d << 7 | upper << 12;
    }

    static int auipc(int d, int upper) {
        return 23 | d << 7 | upper << 12;
    }

    static int ld(int d, int a, int imm) {
        return i(3, d, 3, a, imm);
    }

    static int load(int n, int d, int a, int imm) {
        return i(3, d, log(n), a, imm);
    }

    static int store(int n, int b, int a, int imm) {
        return s(35, log(n), a, b, imm);
    }

    static int log(int n) {
        return n == 1 ? 0 : n == 2 ? 1 : n == 4 ? 2 : 3;
    }

    static int jal(int d, int distance) {
        return 111 | d << 7 | distance & 0xFF000 | (distance >> 11 & 1) << 20 | (distance >> 1 & 1023) << 21
                | (distance >> 20 & 1) << 31;
    }

    static int jalr(int d, int a, int imm) {
        return i(103, d, 0, a, imm);
    }

    static int branch(int f, int a, int b, int distance) {
        return 99 | (distance >> 11 & 1) << 7 | (distance >> 1 & 15) << 8 | f << 12 | a << 15 | b << 20
                | (distance >> 5 & 63) << 25 | (distance >> 12 & 1) << 31;
    }

    static int csrrw(int d, int k, int a) {
        return i(115, d, 1, a, k);
    }

    static int csrrs(int d, int k, int a) {
        return i(115, d, 2, a, k);
    }

    static int csrrc(int d, int k, int a) {
        return i(115, d, 3, a, k);
    }

    static int csrrwi(int d, int k, int u) {
        return i(115, d, 5, u, k);
    }

    static int amo(int sort, int n, int d, int a, int b) {
        return r(47, d, log(n), a, b, sort << 2);
    }

    static final int ECALL = 115, EBREAK = 115 | 1 << 20, SRET = 115 | 258 << 20, MRET = 115 | 770 << 20,
            WFI = 115 | 261 << 20, SFENCE = 115 | 288 << 20;
}
