/** Part 2: every half does what the instruction does for which it stands. */
public final class FormsTest {
    private static final Rig rig = new Rig(1);

    private static int b(int h, int i) {
        return h >>> i & 1;
    }

    /** Bits of an immediate by their places: the half's bits from one on down go to the places told. */
    private static int imm(int h, int from, int... places) {
        int v = 0;
        for (int i = 0; i < places.length; i++) {
            v |= b(h, from - i) << places[i];
        }
        return v;
    }

    private static int signed(int v, int bits) {
        return v << 32 - bits >> 32 - bits;
    }

    /** The instruction that a half stands for, made anew from how the immediates are laid out; 0 for none. */
    static int expand(int h) {
        int rd = h >>> 7 & 31, rs2 = h >>> 2 & 31, low = 8 + (h >>> 2 & 7), high = 8 + (h >>> 7 & 7);
        int six = imm(h, 12, 5) | imm(h, 6, 4, 3, 2, 1, 0);
        int wordAt = imm(h, 12, 5, 4, 3) | imm(h, 6, 2, 6);
        int longAt = imm(h, 12, 5, 4, 3) | imm(h, 6, 7, 6);
        int wordOnStack = imm(h, 12, 5) | imm(h, 6, 4, 3, 2, 7, 6);
        int longOnStack = imm(h, 12, 5) | imm(h, 6, 4, 3, 8, 7, 6);
        int wordToStack = imm(h, 12, 5, 4, 3, 2, 7, 6);
        int longToStack = imm(h, 12, 5, 4, 3, 8, 7, 6);
        int jump = signed(imm(h, 12, 11, 4, 9, 8, 10, 6, 7, 3, 2, 1, 5), 12);
        int branch = signed(imm(h, 12, 8, 4, 3) | imm(h, 6, 7, 6, 2, 1, 5), 9);
        int stack = signed(imm(h, 12, 9) | imm(h, 6, 4, 6, 8, 7, 5), 10);
        int fromStack = imm(h, 12, 5, 4, 9, 8, 7, 6, 2, 3);
        switch ((h & 3) << 3 | h >>> 13) {
            case 0: return fromStack == 0 ? 0 : Rig.addi(low, 2, fromStack);
            case 1: return Rig.i(7, low, 3, high, longAt);
            case 2: return Rig.i(3, low, 2, high, wordAt);
            case 3: return Rig.i(3, low, 3, high, longAt);
            case 5: return Rig.s(39, 3, high, low, longAt);
            case 6: return Rig.s(35, 2, high, low, wordAt);
            case 7: return Rig.s(35, 3, high, low, longAt);
            case 8: return Rig.addi(rd, rd, signed(six, 6));
            case 9: return rd == 0 ? 0 : Rig.i(27, rd, 0, rd, signed(six, 6));
            case 10: return Rig.addi(rd, 0, signed(six, 6));
            case 11:
                if (rd == 2) {
                    return stack == 0 ? 0 : Rig.addi(2, 2, stack);
                }
                return six == 0 ? 0 : Rig.lui(rd, signed(six, 6) & 0xFFFFF);
            case 12: return expandCalculation(h, six, high, low);
            case 13: return Rig.jal(0, jump);
            case 14: return Rig.branch(0, high, 0, branch);
            case 15: return Rig.branch(1, high, 0, branch);
            case 16: return Rig.i(19, rd, 1, rd, six);
            case 17: return Rig.i(7, rd, 3, 2, longOnStack);
            case 18: return rd == 0 ? 0 : Rig.i(3, rd, 2, 2, wordOnStack);
            case 19: return rd == 0 ? 0 : Rig.i(3, rd, 3, 2, longOnStack);
            case 20:
                if (b(h, 12) == 0) {
                    return rs2 != 0 ? Rig.r(51, rd, 0, 0, rs2, 0) : rd == 0 ? 0 : Rig.jalr(0, rd, 0);
                }
                return rs2 != 0 ? Rig.r(51, rd, 0, rd, rs2, 0) : rd == 0 ? Rig.EBREAK : Rig.jalr(1, rd, 0);
            case 21: return Rig.s(39, 3, 2, rs2, longToStack);
            case 22: return Rig.s(35, 2, 2, rs2, wordToStack);
            case 23: return Rig.s(35, 3, 2, rs2, longToStack);
            default: return 0;
        }
    }

    private static int expandCalculation(int h, int six, int high, int low) {
        switch (h >>> 10 & 3) {
            case 0: return Rig.i(19, high, 5, high, six);
            case 1: return Rig.i(19, high, 5, high, six | 1 << 10);
            case 2: return Rig.i(19, high, 7, high, signed(six, 6));
            default: break;
        }
        switch (b(h, 12) << 2 | h >>> 5 & 3) {
            case 0: return Rig.r(51, high, 0, high, low, 32);
            case 1: return Rig.r(51, high, 4, high, low, 0);
            case 2: return Rig.r(51, high, 6, high, low, 0);
            case 3: return Rig.r(51, high, 7, high, low, 0);
            case 4: return Rig.r(59, high, 0, high, low, 32);
            case 5: return Rig.r(59, high, 0, high, low, 0);
            default: return 0;
        }
    }

    private static final long AREA = Rig.DATA + 0x8000;
    private static final int PROGRAM = 46;

    /** Registers 1 .. 31 and floating ones 8 .. 15 with numbers that tell them apart, most being good addresses. */
    private static int[] preamble(boolean floats) {
        int[] p = new int[PROGRAM];
        int n = 0;
        p[n++] = Rig.lui(1, floats ? 2 : 0);
        p[n++] = Rig.csrrw(0, 768, 1);
        p[n++] = Rig.auipc(31, 0x10);
        for (int i = 8; i < 16; i++) {
            p[n++] = floats ? Rig.i(7, i, 3, 31, 8 * i) : Rig.NOP;
        }
        for (int i = 1; i <= 31; i++) {
            p[n++] = Rig.ld(i, 31, 8 * i);
        }
        while (n < PROGRAM) {
            p[n++] = Rig.NOP;
        }
        return p;
    }

    private static long state() {
        long s = 0;
        for (int i = 0; i < 32; i++) {
            s = s * 31 + rig.x(i);
            s = s * 31 + rig.f(i);
        }
        for (int k = 832; k < 836; k++) {
            s = s * 31 + (k == 835 ? 0 : rig.csr(k));
        }
        s = s * 31 + rig.csr(768);
        s = s * 31 + rig.csr(2818);
        s = s * 31 + rig.machine.sum(AREA, AREA + 0x2000);
        return s * 31 + rig.machine.mode(0);
    }

    private static void refill(byte[] area) {
        rig.bytes(AREA, area);
    }

    private static void check(int h, boolean floats, byte[] area) {
        int w = expand(h);
        long at = Rig.BASE + 4 * PROGRAM;
        String told = "half " + Integer.toHexString(h);
        rig.words(at, h, 0);
        rig.machine.start();
        rig.machine.run(PROGRAM + 1);
        long counter = rig.machine.counter(0);
        long state = state();
        long cause = rig.csr(834), value = rig.csr(835);
        boolean link = (w & 127) == 103 && (w >>> 7 & 31) == 1;
        long linked = rig.x(1);
        if (w == 0) {
            Rig.due(told + " cause", cause, 2);
            Rig.due(told + " value", value, h);
            return;
        }
        boolean stores = (w & 127) == 35 || (w & 127) == 39;
        if (stores) {
            refill(area);
        }
        rig.words(at, w, 0);
        rig.machine.start();
        rig.machine.run(PROGRAM + 1);
        boolean straight = rig.machine.counter(0) == at + 4 && !isTaken(w);
        Rig.due(told + " counter", counter, straight ? at + 2 : rig.machine.counter(0));
        if (link) {
            Rig.due(told + " links", linked, at + 2);
        } else {
            Rig.due(told + " does as " + Integer.toHexString(w), state, state());
        }
        Rig.due(told + " cause", cause, rig.csr(834));
        if (cause == 2) {
            Rig.due(told + " value", value, h);
        } else {
            Rig.due(told + " value", value, rig.csr(835));
        }
        if (stores) {
            refill(area);
        }
    }

    private static boolean isTaken(int w) {
        boolean isZero = rig.x(w >>> 15 & 31) == 0;
        return (w & 127) == 111 || (w & 127) == 99 && isZero == ((w >>> 12 & 7) == 0);
    }

    public static void main(String[] args) {
        byte[] area = new byte[0x2000];
        for (int i = 0; i < area.length; i++) {
            area[i] = (byte) (i * 37 + (i >> 8));
        }
        refill(area);
        long[] registers = new long[32];
        for (int i = 0; i < 32; i++) {
            registers[i] = AREA + 0x100 + 0x20 * i + (i % 4 == 0 ? 0 : i % 8);
        }
        registers[9] = 0;
        registers[11] = -3;
        for (int round = 0; round < 2; round++) {
            rig.longs(Rig.DATA, registers);
            rig.words(Rig.BASE, preamble(round == 0));
            for (int h = 0; h < 65536; h++) {
                boolean isFloat = (h & 1) == 0 && (h >>> 13 & 3) == 1;
                if ((h & 3) != 3 && (round == 0 || isFloat && h % 7 == 0)) {
                    check(h, round == 0, area);
                }
            }
        }
        Rig.due("half with FS 0 was illegal", rig.csr(834), 2);
        Rig.finish("FormsTest");
    }
}
