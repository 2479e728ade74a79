import java.util.ArrayList;
import java.util.List;

/**
 * A new machine for one case: first it is told what registers, control registers, memory and mode are to be, then words
 * run from CODE on, one round for each. Registers 30 and 31 of part 1 are used to get there.
 */
final class Stage {
    static final long CODE = Rig.BASE + 0x4000;
    static final long DATA = Rig.BASE + 0x8000;
    static final long TABLES = Rig.BASE + 0x100000;
    /** The page of virtual addresses from 0 on that tables() maps to DATA; the next one is mapped to nothing. */
    static final long PAGE = 0x5000;
    private static final long VALUES = Rig.BASE + 0x2000;

    final Rig rig;
    final BoardMachine machine;
    private final List<Integer> words = new ArrayList<>();
    private final List<Long> values = new ArrayList<>();
    private long status = 0x2000;
    private int mode = 3;
    private long start = CODE;
    private boolean isClosed;

    Stage() {
        this(1);
    }

    Stage(int processors) {
        rig = new Rig(processors);
        machine = rig.machine;
    }

    // What is told before.

    private Stage value(long v, int... uses) {
        for (int word : uses) {
            words.add(word == 0 ? Rig.ld(30, 31, 8 * values.size()) : word);
        }
        values.add(v);
        return this;
    }

    Stage with(int r, long v) {
        return value(v, Rig.ld(r, 31, 8 * values.size()));
    }

    Stage withFloat(int r, long v) {
        return value(v, Rig.i(7, r, 3, 31, 8 * values.size()));
    }

    Stage withControl(int k, long v) {
        isClosed |= k == 928;
        return value(v, 0, Rig.csrrw(0, k, 30));
    }

    /** Bits of the status; MPP is told by inMode, but in mode 3, where it is as told here. FS is 1 if it isn't told. */
    Stage withStatus(long v) {
        status = (v & 0x6000) == 0 ? v | 0x2000 : v;
        return this;
    }

    Stage withoutFloats() {
        status &= ~0x6000L;
        return this;
    }

    Stage inMode(int m) {
        mode = m;
        return this;
    }

    Stage at(long counter) {
        start = counter;
        return this;
    }

    Stage memory(long address, long... longs) {
        rig.longs(address, longs);
        return this;
    }

    Stage words(long address, int... some) {
        rig.words(address, some);
        return this;
    }

    /** Without this, and without a word on control register 928, all addresses are let through in all modes. */
    Stage closed() {
        isClosed = true;
        return this;
    }

    /**
     * Tables of sort 8 from TABLES on: the gigabyte of MEMORY at its own addresses, as pages of the mode that is told
     * (as the user's for 0), and from 0 on pages of 4,096 bytes, of which PAGE is there.
     */
    Stage tables(int m) {
        long own = m == 0 ? 0xDF : 0xCF;
        memory(TABLES, entry(TABLES + 0x1000, 1), 0, entry(Rig.BASE, own));
        memory(TABLES + 0x1000, entry(TABLES + 0x2000, 1));
        page(PAGE, entry(DATA, own));
        return withControl(384, 8L << 60 | TABLES >> 12).inMode(m);
    }

    Stage page(long virtual, long entry) {
        return memory(leaf(virtual), entry);
    }

    static long leaf(long virtual) {
        return TABLES + 0x2000 + 8 * (virtual >> 12);
    }

    static long entry(long physical, long bits) {
        return physical >> 12 << 10 | bits;
    }

    // Running.

    /** Gets there and does nothing more. */
    Stage ready() {
        if (!isClosed) {
            withControl(951, -1L).withControl(928, 0x1FL << 56);
        }
        withControl(833, start);
        boolean returns = mode != 3;
        value(returns ? status & ~(3L << 11) | (long) mode << 11 : status, 0, Rig.csrrw(0, 768, 30));
        List<Integer> all = new ArrayList<>();
        all.add(Rig.lui(30, 2));
        all.add(Rig.csrrw(0, 768, 30));
        all.add(Rig.auipc(31, 2));
        all.add(Rig.addi(31, 31, -8));
        all.addAll(words);
        all.add(returns ? Rig.MRET : Rig.csrrs(31, 833, 0));
        if (!returns) {
            all.add(Rig.jalr(0, 31, 0));
        }
        int[] program = new int[all.size()];
        for (int i = 0; i < program.length; i++) {
            program[i] = all.get(i);
        }
        long[] told = new long[values.size()];
        for (int i = 0; i < told.length; i++) {
            told[i] = values.get(i);
        }
        rig.words(Rig.BASE, program);
        rig.longs(VALUES, told);
        machine.start();
        machine.run(program.length);
        Rig.due("a stage is set", machine.counter(0) == start && machine.mode(0) == mode);
        return this;
    }

    Stage run(int... some) {
        rig.words(CODE, some);
        ready();
        machine.run(some.length);
        return this;
    }

    /** Runs 16-bit forms, one round for each. */
    Stage runHalves(int... halves) {
        byte[] bytes = new byte[2 * halves.length];
        for (int i = 0; i < bytes.length; i++) {
            bytes[i] = (byte) (halves[i / 2] >>> 8 * (i % 2));
        }
        rig.bytes(CODE, bytes);
        ready();
        machine.run(halves.length);
        return this;
    }

    Stage more(int rounds) {
        machine.run(rounds);
        return this;
    }

    // What came of it.

    long x(int r) {
        return machine.register(0, r);
    }

    long f(int r) {
        return machine.floating(0, r);
    }

    long control(int k) {
        return machine.control(0, k);
    }

    /** FS. */
    long floatState() {
        return control(768) >>> 13 & 3;
    }

    /** An exception in the machine's registers, the counter being where the first word stood. */
    Stage due(String what, int cause, long value) {
        return due(what, cause, value, start);
    }

    Stage due(String what, int cause, long value, long place) {
        Rig.due(what + ": cause", control(834), cause);
        Rig.due(what + ": value", control(835), value);
        Rig.due(what + ": place", control(833), place);
        Rig.due(what + ": mode", machine.mode(0), 3);
        Rig.due(what + ": goes on", machine.counter(0), 0);
        Rig.due(what + ": no breach", machine.breaches(), 0);
        return this;
    }

    /** No exception: so many bytes were run. */
    Stage fine(String what, int bytes) {
        Rig.due(what + ": no cause", control(834) | control(322), 0);
        Rig.due(what + ": counter", machine.counter(0), start + bytes);
        Rig.due(what + ": no breach", machine.breaches(), 0);
        return this;
    }

    /** No exception in one word, of which a register is what is due. */
    void gives(String what, int r, long want) {
        fine(what, 4);
        Rig.due(what, x(r), want);
    }
}
