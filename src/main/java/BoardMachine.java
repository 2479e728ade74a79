import java.util.Arrays;

/** A whole machine, as ../shared/DOC.md describes it; the parts named in comments are the parts of that document. */
public final class BoardMachine {
    public static final int NONE = -1;
    public static final int BYTES = 0, IMAGE = 1, SECTORS = 2, INPUT = 3;

    private static final int TAPE_LIMIT = 65536;
    private static final int ROUNDS_LIMIT = 10000;
    private static final int SUM_LIMIT = 65536;
    private static final long TREE_AT = Memory.BASE + 4186112;
    private static final int IMAGE_HEADER = 64;
    private static final int SEGMENT_HEADER = 56;
    private static final int[] IMAGE_BEGINS = {127, 69, 76, 70, 2, 1, 1};

    private final Memory memory;
    private final Serial serial = new Serial();
    private final Disk disk;
    private final Windows windows;
    private final Core[] cores;
    private final Tree tree;
    private final byte[] tape = new byte[TAPE_LIMIT];
    private int taped;
    private long entry = Memory.BASE;

    public BoardMachine(int processors) {
        int count = processors >= 1 && processors <= 4 ? processors : 1;
        memory = new Memory(count);
        disk = new Disk(memory);
        windows = new Windows(count, serial, disk);
        cores = new Core[count];
        for (int i = 0; i < count; i++) {
            cores[i] = new Core(i, memory, windows);
        }
        tree = new Tree(count);
        start();
    }

    public int feed(int a, int b, int c, int d, int e) throws IllegalStateException {
        if (taped + 20 > TAPE_LIMIT) {
            throw new IllegalStateException();
        }
        tapeNumber(a);
        tapeNumber(b);
        tapeNumber(c);
        tapeNumber(d);
        tapeNumber(e);
        return taped;
    }

    private void tapeNumber(int v) {
        for (int shift = 24; shift >= 0; shift -= 8) {
            tape[taped] = (byte) (v >>> shift);
            taped++;
        }
    }

    public void end(int n) throws IllegalArgumentException {
        if (n < 0 || n > taped) {
            throw new IllegalArgumentException();
        }
        taped = n;
    }

    public int load(int kind, long address) throws IllegalArgumentException, IndexOutOfBoundsException {
        if (kind < BYTES || kind > INPUT) {
            throw new IllegalArgumentException();
        }
        boolean placed = kind == BYTES ? memory.holds(address, taped) : kind != SECTORS || disk.holds(address, taped);
        if (taped > 0 && !placed) {
            throw new IndexOutOfBoundsException();
        }
        int answer = taped;
        if (kind == BYTES) {
            copyTape(0, taped, address);
        } else if (kind == IMAGE) {
            answer = loadImage();
        } else if (kind == SECTORS) {
            disk.fill(address, tape, taped);
        } else {
            answer = serial.enqueue(tape, taped);
        }
        taped = 0;
        return answer;
    }

    private void copyTape(int from, int count, long address) {
        for (int i = 0; i < count; i++) {
            memory.put(address + i, 1, tape[from + i]);
        }
    }

    private int loadImage() {
        int refused = refusal();
        if (refused != 0) {
            return refused;
        }
        int segments = (int) imageNumber(56, 2);
        int table = (int) imageNumber(32, 8);
        for (int k = 0; k < segments; k++) {
            int p = table + SEGMENT_HEADER * k;
            if (isLoadable(p)) {
                loadSegment(p);
            }
        }
        entry = imageNumber(24, 8);
        return 0;
    }

    private void loadSegment(int p) {
        int count = (int) imageNumber(p + 32, 8);
        long address = imageNumber(p + 24, 8);
        copyTape((int) imageNumber(p + 8, 8), count, address);
        memory.clear(address + count, address + imageNumber(p + 40, 8));
    }

    /** The number by which the image on the tape is refused, or 0. */
    private int refusal() {
        if (taped < IMAGE_HEADER) {
            return 1;
        }
        for (int i = 0; i < IMAGE_BEGINS.length; i++) {
            if (imageNumber(i, 1) != IMAGE_BEGINS[i]) {
                return 2;
            }
        }
        if (imageNumber(16, 2) != 2 || imageNumber(18, 2) != 243 || imageNumber(20, 4) != 1) {
            return 3;
        }
        long segments = imageNumber(56, 2);
        if (imageNumber(52, 2) != 64 || imageNumber(54, 2) != SEGMENT_HEADER || segments < 1 || segments > 16
                || !isOnTape(imageNumber(32, 8), SEGMENT_HEADER * segments)) {
            return 4;
        }
        int table = (int) imageNumber(32, 8);
        for (int k = 0; k < segments; k++) {
            int refused = segmentRefusal(table, k);
            if (refused != 0) {
                return refused;
            }
        }
        long begin = imageNumber(24, 8);
        return (begin & 1) == 0 && memory.holds(begin, 1) ? 0 : 8;
    }

    private int segmentRefusal(int table, int k) {
        int p = table + SEGMENT_HEADER * k;
        if (!isLoadable(p)) {
            return 0;
        }
        long onTape = imageNumber(p + 32, 8);
        long inMemory = imageNumber(p + 40, 8);
        if (!isOnTape(imageNumber(p + 8, 8), onTape) || Core.below(inMemory, onTape)) {
            return 5;
        }
        long address = imageNumber(p + 24, 8);
        if (inMemory == 0) {
            return 0;
        }
        if (!memory.holds(address, inMemory)) {
            return 6;
        }
        for (int j = 0; j < k; j++) {
            if (overlaps(table + SEGMENT_HEADER * j, address, inMemory)) {
                return 7;
            }
        }
        return 0;
    }

    private boolean overlaps(int p, long address, long count) {
        long other = imageNumber(p + 24, 8);
        long size = imageNumber(p + 40, 8);
        return isLoadable(p) && size != 0 && other < address + count && address < other + size;
    }

    private boolean isLoadable(int p) {
        return imageNumber(p, 4) == 1;
    }

    /** Both numbers are without sign, so one that is negative here is far beyond the tape. */
    private boolean isOnTape(long from, long count) {
        return from >= 0 && count >= 0 && from <= taped && count <= taped - from;
    }

    private long imageNumber(int place, int n) {
        if (place < 0 || n > taped - place) {
            return 0;
        }
        long v = 0;
        for (int i = n - 1; i >= 0; i--) {
            v = v << 8 | tape[place + i] & 255;
        }
        return v;
    }

    public int start() {
        windows.ended = false;
        for (int i = 0; i < cores.length; i++) {
            cores[i].reset(entry, TREE_AT);
        }
        for (int i = 0; i < tree.size; i += 8) {
            memory.put(TREE_AT + i, Math.min(8, tree.size - i), tree.row[i >>> 3]);
        }
        memory.release();
        return tree.size;
    }

    public int run(int rounds) throws IllegalArgumentException {
        if (rounds < 0 || rounds > ROUNDS_LIMIT) {
            throw new IllegalArgumentException();
        }
        int made = 0;
        while (made < rounds && !windows.ended) {
            for (int i = 0; i < cores.length && !windows.ended; i++) {
                cores[i].step();
                cores[i].audit();
                if (windows.isTouched) {
                    disk.work();
                    windows.feelSignals();
                }
            }
            if (!windows.ended) {
                finishRound();
            }
            made++;
        }
        return made;
    }

    private void finishRound() {
        for (int i = 0; i < cores.length; i++) {
            cores[i].controls.countCycle();
        }
        windows.countRound();
        if (serial.arrive()) {
            windows.feelSignals();
        }
    }

    public int code() {
        return windows.ended ? windows.endCode : NONE;
    }

    public int processors() {
        return cores.length;
    }

    public long counter(int processor) throws IndexOutOfBoundsException {
        if (processor < 0 || processor >= cores.length) {
            throw new IndexOutOfBoundsException();
        }
        return cores[processor].counter;
    }

    public long register(int processor, int r) throws IndexOutOfBoundsException {
        if (processor < 0 || processor >= cores.length || r < 0 || r > 31) {
            throw new IndexOutOfBoundsException();
        }
        return cores[processor].registers[r];
    }

    public long floating(int processor, int r) throws IndexOutOfBoundsException {
        if (processor < 0 || processor >= cores.length || r < 0 || r > 31) {
            throw new IndexOutOfBoundsException();
        }
        return cores[processor].floats.registers[r];
    }

    public long control(int processor, int k) throws IndexOutOfBoundsException {
        if (processor < 0 || processor >= cores.length) {
            throw new IndexOutOfBoundsException();
        }
        Controls controls = cores[processor].controls;
        controls.lines = windows.lines(processor);
        return controls.show(k);
    }

    public int mode(int processor) throws IndexOutOfBoundsException {
        if (processor < 0 || processor >= cores.length) {
            throw new IndexOutOfBoundsException();
        }
        return cores[processor].controls.mode + (cores[processor].waiting ? 4 : 0);
    }

    public long word(long address) throws IndexOutOfBoundsException {
        if (!memory.holds(address, 8)) {
            throw new IndexOutOfBoundsException();
        }
        return memory.number(address, 8);
    }

    public long sum(long from, long to) throws IllegalArgumentException, IndexOutOfBoundsException {
        long count = to - from;
        if (to < from || count < 0 || count > SUM_LIMIT) {
            throw new IllegalArgumentException();
        }
        if (count > 0 && !memory.holds(from, count)) {
            throw new IndexOutOfBoundsException();
        }
        long total = 0;
        for (int i = 0; i < count; i++) {
            total = total * 31 + memory.number(from + i, 1);
        }
        return total;
    }

    public int disk(int place) throws IndexOutOfBoundsException {
        if (place < 0 || place >= disk.sectors.length) {
            throw new IndexOutOfBoundsException();
        }
        return disk.sectors[place] & 255;
    }

    public long sent() {
        return serial.sent;
    }

    public int out(long k) {
        return serial.sentByte(k);
    }

    public int waiting() {
        return serial.inputCount;
    }

    public int changed() {
        return disk.changed;
    }

    public long time() {
        return windows.time;
    }

    public long breaches() {
        long total = memory.breaches + serial.breaches + windows.controller.breaches;
        for (int i = 0; i < cores.length; i++) {
            total += cores[i].breaches;
        }
        return total;
    }

    /** MEMORY, by physical addresses, and the reservations of part 6 that every store into it may undo. */
    private static final class Memory {
        static final long BASE = 2147483648L;
        static final int SIZE = 4194304;
        private static final int LAST_CELL = SIZE / 8 - 1;

        // Eight bytes to a cell: a byte array would fill most of the room that all objects share.
        private final long[] cells = new long[SIZE / 8];
        private final long[] heldAt;
        private final int[] heldSize;
        // Kept beside heldSize so that a conditional store that should have failed is seen as a breach.
        private final boolean[] disturbed;
        long breaches;

        Memory(int processors) {
            heldAt = new long[processors];
            heldSize = new int[processors];
            disturbed = new boolean[processors];
        }

        boolean holds(long address, long n) {
            long at = address - BASE;
            return n >= 0 && n <= SIZE && at >= 0 && at <= SIZE - n;
        }

        private static int cellOf(long address) {
            return (int) (address - BASE >>> 3) & LAST_CELL;
        }

        private static long ones(int n) {
            return n >= 8 ? -1L : (1L << 8 * n) - 1;
        }

        /** The number of n bytes at an address, without sign. */
        long number(long address, int n) {
            int cell = cellOf(address);
            int shift = 8 * (int) (address & 7);
            long v = cells[cell] >>> shift;
            if (shift + 8 * n > 64) {
                v |= cells[cell + 1 & LAST_CELL] << 64 - shift;
            }
            return v & ones(n);
        }

        void put(long address, int n, long v) {
            int cell = cellOf(address);
            int shift = 8 * (int) (address & 7);
            long mask = ones(n);
            cells[cell] = cells[cell] & ~(mask << shift) | (v & mask) << shift;
            disturb(cell);
            if (shift + 8 * n > 64) {
                int next = cell + 1 & LAST_CELL;
                int rest = 64 - shift;
                cells[next] = cells[next] & ~(mask >>> rest) | (v & mask) >>> rest;
                disturb(next);
            }
        }

        void clear(long from, long to) {
            long at = from;
            while (at < to) {
                int n = (at & 7) == 0 && to - at >= 8 ? 8 : 1;
                put(at, n, 0);
                at += n;
            }
        }

        private void disturb(int cell) {
            for (int p = 0; p < heldAt.length; p++) {
                if (heldAt[p] >>> 3 == cell + (BASE >>> 3)) {
                    heldSize[p] = 0;
                    disturbed[p] = true;
                }
            }
        }

        void release() {
            for (int p = 0; p < heldAt.length; p++) {
                reserve(p, 0, 0);
            }
        }

        void reserve(int p, long address, int size) {
            heldAt[p] = address;
            heldSize[p] = size;
            disturbed[p] = false;
        }

        boolean storeIfReserved(int p, long address, int size, long v) {
            boolean held = heldSize[p] == size && heldAt[p] == address;
            if (held && disturbed[p]) {
                breaches++;
            }
            heldSize[p] = 0;
            if (held) {
                put(address, size, v);
            }
            return held;
        }
    }

    /** A processor: part 1, and the step that joins the parts. */
    private static final class Core {
        private static final int DONE = 0, LOAD = 1, STORE = 2, ATOMIC = 3, FLOAT = 4, CONTROL = 5, ILLEGAL = 6, FAULT = 7;

        final long[] registers = new long[32];
        final Floats floats = new Floats();
        final Controls controls;
        private final Finder finder;
        private final Memory memory;
        private final Windows windows;
        private final int number;
        // Where the bytes of data were found: one place for all, or one for each when they lie in two pages.
        private final long[] places = new long[8];
        long counter;
        boolean waiting;
        long breaches;
        private int instruction;
        private int length;
        private long raw;
        private int cause;
        private long value;
        private long address;
        private int size;
        private long operand;
        private int sort;
        private int target;

        Core(int number, Memory memory, Windows windows) {
            this.number = number;
            this.memory = memory;
            this.windows = windows;
            finder = new Finder(memory);
            controls = new Controls(number, windows, floats, finder);
        }

        void reset(long entry, long tree) {
            Arrays.fill(registers, 0L);
            registers[10] = number;
            registers[11] = tree;
            counter = entry;
            waiting = false;
            floats.reset();
            finder.reset();
            controls.reset();
        }

        void step() {
            controls.lines = windows.lines(number);
            if (waiting && controls.ready() == 0) {
                return;
            }
            waiting = false;
            int interrupt = controls.due();
            if (interrupt != NONE) {
                counter = controls.trap(interrupt, true, 0, counter);
                return;
            }
            cause = NONE;
            switch (fetch() ? decode() : FAULT) {
                case LOAD: doLoad(); break;
                case STORE: doStore(); break;
                case ATOMIC: doAtomic(); break;
                case FLOAT: doFloat(); break;
                case CONTROL: doControl(); break;
                case ILLEGAL: raise(2, raw); break;
                default: break;
            }
            if (cause == NONE) {
                controls.countInstruction();
            } else {
                counter = controls.trap(cause, false, value, counter);
            }
        }

        /** Looks, behind a step, for what a right machine never shows. */
        void audit() {
            breaches += (registers[0] != 0 ? 1 : 0) + (counter & 1)
                    + (controls.mode == 2 ? 1 : 0) + (controls.previousMode() == 2 ? 1 : 0);
        }

        private boolean raise(int exception, long told) {
            cause = exception;
            value = told;
            return false;
        }

        private boolean fetch() {
            int low = fetchHalf(counter);
            if (low == NONE) {
                return false;
            }
            if ((low & 3) != 3) {
                instruction = Forms.expand(low);
                length = 2;
                raw = low;
                return true;
            }
            int high = fetchHalf(counter + 2);
            instruction = high << 16 | low;
            length = 4;
            raw = instruction & 0xFFFFFFFFL;
            return high != NONE;
        }

        /** The two bytes at an address, or NONE behind an exception. */
        private int fetchHalf(long at) {
            int fault = finder.find(at, Finder.FETCHING, 2, controls.mode, controls);
            if (fault == 0 && !memory.holds(finder.physical, 2)) {
                fault = 1;
            }
            if (fault != 0) {
                raise(fault, at);
                return NONE;
            }
            return (int) memory.number(finder.physical, 2);
        }

        private int finish(long v) {
            if (target != 0) {
                registers[target] = v;
            }
            counter += length;
            return DONE;
        }

        /** Runs an instruction that registers suffice for; answers what is wanted for any other. */
        private int decode() {
            int f = instruction >>> 12 & 7;
            long x = registers[instruction >>> 15 & 31];
            long y = registers[instruction >>> 20 & 31];
            target = instruction >>> 7 & 31;
            switch (instruction & 127) {
                case 55: return finish(instruction & -4096);
                case 23: return finish(counter + (instruction & -4096));
                case 111: return jump(counter + jumpOffset());
                case 103: return f == 0 ? jump(x + (instruction >> 20) & -2L) : ILLEGAL;
                case 99: return branch(f, x, y);
                case 19: return withImmediate(f, x, instruction >> 20);
                case 27: return withImmediateInt(f, x);
                case 51: return ofLongs(f, x, y);
                case 59: return ofInts(f, (int) x, (int) y);
                case 15: return f < 2 ? skip() : ILLEGAL;
                default: return want(f, x, y);
            }
        }

        private int skip() {
            counter += length;
            return DONE;
        }

        private int jump(long to) {
            long behind = counter + length;
            finish(behind);
            counter = to;
            return DONE;
        }

        private int jumpOffset() {
            return instruction >> 31 << 20 | instruction & 0xFF000 | (instruction >>> 20 & 1) << 11
                    | (instruction >>> 21 & 1023) << 1;
        }

        private int branchOffset() {
            return instruction >> 31 << 12 | (instruction >>> 7 & 1) << 11 | (instruction >>> 25 & 63) << 5
                    | (instruction >>> 8 & 15) << 1;
        }

        private int storeOffset() {
            return instruction >> 25 << 5 | instruction >>> 7 & 31;
        }

        private int branch(int f, long x, long y) {
            boolean taken;
            switch (f & 6) {
                case 0: taken = x == y; break;
                case 4: taken = x < y; break;
                case 6: taken = below(x, y); break;
                default: return ILLEGAL;
            }
            counter += taken == ((f & 1) == 0) ? branchOffset() : length;
            return DONE;
        }

        private int withImmediate(int f, long x, long i) {
            int sixth = instruction >>> 26;
            int shift = instruction >>> 20 & 63;
            switch (f) {
                case 0: return finish(x + i);
                case 1: return sixth == 0 ? finish(x << shift) : ILLEGAL;
                case 2: return finish(x < i ? 1 : 0);
                case 3: return finish(below(x, i) ? 1 : 0);
                case 4: return finish(x ^ i);
                case 5: return sixth == 0 ? finish(x >>> shift) : sixth == 16 ? finish(x >> shift) : ILLEGAL;
                case 6: return finish(x | i);
                default: return finish(x & i);
            }
        }

        private int withImmediateInt(int f, long x) {
            int g = instruction >>> 25;
            int shift = instruction >>> 20 & 31;
            if (f == 0) {
                return finish((int) (x + (instruction >> 20)));
            }
            if (f == 1 && g == 0) {
                return finish((int) x << shift);
            }
            if (f == 5 && g == 0) {
                return finish((int) x >>> shift);
            }
            return f == 5 && g == 32 ? finish((int) x >> shift) : ILLEGAL;
        }

        private int ofLongs(int f, long x, long y) {
            int g = instruction >>> 25;
            if (g == 0) {
                return finish(combined(f, x, y));
            }
            if (g == 1) {
                return finish(multiplied(f, x, y));
            }
            if (g == 32 && f == 0) {
                return finish(x - y);
            }
            return g == 32 && f == 5 ? finish(x >> (int) (y & 63)) : ILLEGAL;
        }

        private static long combined(int f, long x, long y) {
            int shift = (int) (y & 63);
            switch (f) {
                case 0: return x + y;
                case 1: return x << shift;
                case 2: return x < y ? 1 : 0;
                case 3: return below(x, y) ? 1 : 0;
                case 4: return x ^ y;
                case 5: return x >>> shift;
                case 6: return x | y;
                default: return x & y;
            }
        }

        private static long multiplied(int f, long x, long y) {
            switch (f) {
                case 0: return x * y;
                case 1: return upperProduct(x, y) - (x < 0 ? y : 0) - (y < 0 ? x : 0);
                case 2: return upperProduct(x, y) - (x < 0 ? y : 0);
                case 3: return upperProduct(x, y);
                case 4: return quotient(x, y);
                case 5: return unsignedQuotient(x, y);
                case 6: return y == 0 ? x : x - quotient(x, y) * y;
                default: return y == 0 ? x : x - unsignedQuotient(x, y) * y;
            }
        }

        private int ofInts(int f, int x, int y) {
            int g = instruction >>> 25;
            if (g == 0 && f == 0) {
                return finish(x + y);
            }
            if (g == 0 && f == 1) {
                return finish(x << (y & 31));
            }
            if (g == 0 && f == 5) {
                return finish(x >>> (y & 31));
            }
            if (g == 32 && f == 0) {
                return finish(x - y);
            }
            if (g == 32 && f == 5) {
                return finish(x >> (y & 31));
            }
            if (g != 1 || f >= 1 && f <= 3) {
                return ILLEGAL;
            }
            // Division without sign of ints is the one with sign of longs that begin with zeros.
            boolean unsigned = f == 5 || f == 7;
            long mask = unsigned ? 0xFFFFFFFFL : -1L;
            return finish((int) multiplied(unsigned ? f - 1 : f, x & mask, y & mask));
        }

        static boolean below(long x, long y) {
            return (x ^ Long.MIN_VALUE) < (y ^ Long.MIN_VALUE);
        }

        /** The upper half of the whole product, both numbers without sign. */
        static long upperProduct(long x, long y) {
            long xLow = x & 0xFFFFFFFFL;
            long yLow = y & 0xFFFFFFFFL;
            long xHigh = x >>> 32;
            long yHigh = y >>> 32;
            long middle = xHigh * yLow + (xLow * yLow >>> 32);
            long other = xLow * yHigh + (middle & 0xFFFFFFFFL);
            return xHigh * yHigh + (middle >>> 32) + (other >>> 32);
        }

        private static long quotient(long x, long y) {
            if (y == 0) {
                return -1;
            }
            return y == -1 ? -x : x / y;
        }

        private static long unsignedQuotient(long x, long y) {
            if (y == 0) {
                return -1;
            }
            if (y < 0) {
                return below(x, y) ? 0 : 1;
            }
            long estimate = (x >>> 1) / y << 1;
            return below(x - estimate * y, y) ? estimate : estimate + 1;
        }

        /** Puts an instruction under way and answers its kind. */
        private int want(int f, long x, long y) {
            int code = instruction & 127;
            int i = instruction >> 20;
            boolean wordOrMore = f == 2 || f == 3;
            switch (code) {
                case 3: return f < 7 ? underWay(LOAD, x + i, 1 << (f & 3), 0, f >>> 2) : ILLEGAL;
                case 35: return f < 4 ? underWay(STORE, x + storeOffset(), 1 << f, y, 0) : ILLEGAL;
                case 47: return wordOrMore && isAtomic() ? underWay(ATOMIC, x, 1 << f, y, instruction >>> 27) : ILLEGAL;
                case 7: return wordOrMore ? underWay(FLOAT, x + i, 1 << f, 0, code) : ILLEGAL;
                case 39: return wordOrMore ? underWay(FLOAT, x + storeOffset(), 1 << f, 0, code) : ILLEGAL;
                case 67: case 71: case 75: case 79: case 83: return underWay(FLOAT, 0, 0, x, code);
                case 115: return f == 4 ? ILLEGAL
                        : underWay(CONTROL, instruction >>> 20, 0, f > 4 ? instruction >>> 15 & 31 : x, f);
                default: return ILLEGAL;
            }
        }

        private int underWay(int kind, long where, int bytes, long with, int which) {
            address = where;
            size = bytes;
            operand = with;
            sort = which;
            return kind;
        }

        private boolean isAtomic() {
            switch (instruction >>> 27) {
                case 2: return (instruction >>> 20 & 31) == 0;
                case 0: case 1: case 3: case 4: case 8: case 12: case 16: case 20: case 24: case 28: return true;
                default: return false;
            }
        }

        /** Whether the data under way were found, all of them; places has where. */
        private boolean locate(int access) {
            boolean whole = isWhole();
            int parts = whole ? 1 : size;
            int each = whole ? size : 1;
            for (int i = 0; i < parts; i++) {
                int fault = finder.find(address + i, access, each, controls.dataMode(), controls);
                if (fault != 0) {
                    return raise(fault, address + i);
                }
                places[i] = finder.physical;
            }
            if (whole && (address & size - 1) == 0 && windows.covers(places[0])) {
                return true;
            }
            for (int i = 0; i < parts; i++) {
                if (!memory.holds(places[i], each)) {
                    return raise(access == Finder.LOADING ? 5 : 7, address + i);
                }
            }
            return true;
        }

        private boolean isWhole() {
            return (address & 4095) + size <= 4096;
        }

        private long loaded() {
            if (isWhole()) {
                return memory.holds(places[0], size) ? memory.number(places[0], size) : windows.read(places[0], size);
            }
            long v = 0;
            for (int i = size - 1; i >= 0; i--) {
                v = v << 8 | memory.number(places[i], 1);
            }
            return v;
        }

        private void store(long v) {
            if (!isWhole()) {
                for (int i = 0; i < size; i++) {
                    memory.put(places[i], 1, v >>> 8 * i);
                    watchStored(places[i], 1);
                }
            } else if (memory.holds(places[0], size)) {
                memory.put(places[0], size, v);
                watchStored(places[0], size);
            } else {
                windows.write(places[0], size, v);
            }
        }

        private void watchStored(long physical, int n) {
            if (controls.dataMode() == 3) {
                return;
            }
            for (int i = 0; i < n; i++) {
                if (!finder.isWritable(physical + i)) {
                    breaches++;
                }
            }
        }

        private void doLoad() {
            if (locate(Finder.LOADING)) {
                int unused = 64 - 8 * size;
                long v = loaded() << unused;
                finish(sort == 0 ? v >> unused : v >>> unused);
            }
        }

        private void doStore() {
            if (locate(Finder.STORING)) {
                store(operand);
                skip();
            }
        }

        private void doAtomic() {
            boolean reserving = sort == 2;
            if ((address & size - 1) != 0) {
                raise(reserving ? 4 : 6, address);
                return;
            }
            if (!locate(reserving ? Finder.LOADING : Finder.STORING)) {
                return;
            }
            if (!memory.holds(places[0], size)) {
                raise(reserving ? 5 : 7, address);
                return;
            }
            long answer = atomicAnswer(places[0]);
            finish(size == 4 ? (int) answer : answer);
        }

        private long atomicAnswer(long at) {
            if (sort == 3) {
                boolean stored = memory.storeIfReserved(number, at, size, operand);
                if (stored) {
                    watchStored(at, size);
                }
                return stored ? 0 : 1;
            }
            long there = memory.number(at, size);
            if (sort == 2) {
                memory.reserve(number, at, size);
                return there;
            }
            if (size == 4) {
                memory.put(at, size, atomicResult(sort, (int) there, (int) operand));
            } else {
                memory.put(at, size, atomicResult(sort, there, operand));
            }
            watchStored(at, size);
            return there;
        }

        private static long atomicResult(int sort, long there, long with) {
            switch (sort) {
                case 0: return there + with;
                case 4: return there ^ with;
                case 8: return there | with;
                case 12: return there & with;
                case 16: return there < with ? there : with;
                case 20: return there > with ? there : with;
                case 24: return below(there, with) ? there : with;
                case 28: return below(there, with) ? with : there;
                default: return with;
            }
        }

        private void doFloat() {
            if (controls.floatState() == 0) {
                raise(2, raw);
            } else if (sort == 7) {
                if (locate(Finder.LOADING)) {
                    floats.keep(target, loaded(), size == 4);
                    controls.soilFloats();
                    skip();
                }
            } else if (sort == 39) {
                if (locate(Finder.STORING)) {
                    store(floats.registers[instruction >>> 20 & 31]);
                    skip();
                }
            } else {
                int came = floats.perform(instruction, operand);
                if (came == Floats.ILLEGAL) {
                    raise(2, raw);
                    return;
                }
                if (floats.hasWritten) {
                    controls.soilFloats();
                }
                if (came == Floats.INTEGER) {
                    finish(floats.answer);
                } else {
                    skip();
                }
            }
        }

        private void doControl() {
            if (sort == 0) {
                doSystem((int) address);
                return;
            }
            int k = (int) address;
            boolean writing = (sort & 3) == 1 || (instruction >>> 15 & 31) != 0;
            if (!controls.permits(k, writing)) {
                raise(2, raw);
                return;
            }
            long shown = controls.show(k);
            if (writing) {
                controls.change(k, sort & 3, operand);
            }
            finish(shown);
        }

        private void doSystem(int k) {
            boolean fencing = k >= 288 && k <= 319;
            boolean clean = target == 0 && (fencing || (instruction >>> 15 & 31) == 0);
            if (clean && k == 0) {
                raise(8 + controls.mode, 0);
            } else if (clean && k == 1) {
                raise(3, counter);
            } else if (clean && (k == 258 || k == 770) && controls.mayReturn(k)) {
                counter = k == 770 ? controls.returnOfMachine() : controls.returnOfSupervisor();
            } else if (clean && k == 261 && controls.mayWait()) {
                waiting = true;
                skip();
            } else if (clean && fencing && controls.mayFence()) {
                skip();
            } else {
                raise(2, raw);
            }
        }
    }

    /** Part 2: the instruction of 32 bits for which a half stands, or 0. */
    private static final class Forms {
        private Forms() {
        }

        static int expand(int h) {
            switch (h & 3) {
                case 0: return expandFirst(h);
                case 1: return expandSecond(h);
                case 2: return expandThird(h);
                default: return 0;
            }
        }

        private static int bits(int h, int high, int low) {
            return h >>> low & (1 << high - low + 1) - 1;
        }

        private static int immediateForm(int c, int d, int f, int a, int i) {
            return c | d << 7 | f << 12 | a << 15 | i << 20;
        }

        private static int registerForm(int c, int d, int f, int a, int b, int g) {
            return c | d << 7 | f << 12 | a << 15 | b << 20 | g << 25;
        }

        private static int storeForm(int c, int f, int a, int b, int i) {
            return c | (i & 31) << 7 | f << 12 | a << 15 | b << 20 | (i >>> 5 & 127) << 25;
        }

        private static int branchForm(int f, int a, int i) {
            return 99 | (i >>> 11 & 1) << 7 | (i >>> 1 & 15) << 8 | f << 12 | a << 15
                    | (i >>> 5 & 63) << 25 | (i >>> 12 & 1) << 31;
        }

        private static int jumpForm(int i) {
            return 111 | i & 0xFF000 | (i >>> 11 & 1) << 20 | (i >>> 1 & 1023) << 21 | (i >>> 20 & 1) << 31;
        }

        private static int expandFirst(int h) {
            int p = 8 + bits(h, 9, 7);
            int s = 8 + bits(h, 4, 2);
            int eight = bits(h, 6, 5) << 6 | bits(h, 12, 10) << 3;
            int four = bits(h, 5, 5) << 6 | bits(h, 12, 10) << 3 | bits(h, 6, 6) << 2;
            int sum = bits(h, 10, 7) << 6 | bits(h, 12, 11) << 4 | bits(h, 5, 5) << 3 | bits(h, 6, 6) << 2;
            switch (h >>> 13 & 7) {
                case 0: return sum == 0 ? 0 : immediateForm(19, s, 0, 2, sum);
                case 1: return immediateForm(7, s, 3, p, eight);
                case 2: return immediateForm(3, s, 2, p, four);
                case 3: return immediateForm(3, s, 3, p, eight);
                case 5: return storeForm(39, 3, p, s, eight);
                case 6: return storeForm(35, 2, p, s, four);
                case 7: return storeForm(35, 3, p, s, eight);
                default: return 0;
            }
        }

        private static int expandSecond(int h) {
            int r = bits(h, 11, 7);
            int p = 8 + bits(h, 9, 7);
            int n = (bits(h, 12, 12) << 5 | bits(h, 6, 2)) << 26 >> 26;
            switch (h >>> 13 & 7) {
                case 0: return immediateForm(19, r, 0, r, n);
                case 1: return r == 0 ? 0 : immediateForm(27, r, 0, r, n);
                case 2: return immediateForm(19, r, 0, 0, n);
                case 3: return r == 2 ? stackForm(h) : n == 0 ? 0 : 55 | r << 7 | n << 12;
                case 4: return calculatingForm(h, p, n);
                case 5: return jumpForm(jumpDistance(h));
                case 6: return branchForm(0, p, branchDistance(h));
                default: return branchForm(1, p, branchDistance(h));
            }
        }

        private static int stackForm(int h) {
            int i = bits(h, 12, 12) << 9 | bits(h, 4, 3) << 7 | bits(h, 5, 5) << 6 | bits(h, 2, 2) << 5
                    | bits(h, 6, 6) << 4;
            return i == 0 ? 0 : immediateForm(19, 2, 0, 2, i << 22 >> 22);
        }

        private static int calculatingForm(int h, int p, int n) {
            int s = 8 + bits(h, 4, 2);
            switch (bits(h, 11, 10)) {
                case 0: return immediateForm(19, p, 5, p, n & 63);
                case 1: return immediateForm(19, p, 5, p, (n & 63) + 1024);
                case 2: return immediateForm(19, p, 7, p, n);
                default: break;
            }
            switch (bits(h, 12, 12) << 2 | bits(h, 6, 5)) {
                case 0: return registerForm(51, p, 0, p, s, 32);
                case 1: return registerForm(51, p, 4, p, s, 0);
                case 2: return registerForm(51, p, 6, p, s, 0);
                case 3: return registerForm(51, p, 7, p, s, 0);
                case 4: return registerForm(59, p, 0, p, s, 32);
                case 5: return registerForm(59, p, 0, p, s, 0);
                default: return 0;
            }
        }

        private static int jumpDistance(int h) {
            int i = bits(h, 12, 12) << 11 | bits(h, 8, 8) << 10 | bits(h, 10, 9) << 8 | bits(h, 6, 6) << 7
                    | bits(h, 7, 7) << 6 | bits(h, 2, 2) << 5 | bits(h, 11, 11) << 4 | bits(h, 5, 3) << 1;
            return i << 20 >> 20;
        }

        private static int branchDistance(int h) {
            int i = bits(h, 12, 12) << 8 | bits(h, 6, 5) << 6 | bits(h, 2, 2) << 5 | bits(h, 11, 10) << 3
                    | bits(h, 4, 3) << 1;
            return i << 23 >> 23;
        }

        private static int expandThird(int h) {
            int r = bits(h, 11, 7);
            int q = bits(h, 6, 2);
            int eight = bits(h, 4, 2) << 6 | bits(h, 12, 12) << 5 | bits(h, 6, 5) << 3;
            int four = bits(h, 3, 2) << 6 | bits(h, 12, 12) << 5 | bits(h, 6, 4) << 2;
            int storedEight = bits(h, 9, 7) << 6 | bits(h, 12, 10) << 3;
            int storedFour = bits(h, 8, 7) << 6 | bits(h, 12, 9) << 2;
            switch (h >>> 13 & 7) {
                case 0: return immediateForm(19, r, 1, r, bits(h, 12, 12) << 5 | q);
                case 1: return immediateForm(7, r, 3, 2, eight);
                case 2: return r == 0 ? 0 : immediateForm(3, r, 2, 2, four);
                case 3: return r == 0 ? 0 : immediateForm(3, r, 3, 2, eight);
                case 4: return movingForm(h, r, q);
                case 5: return storeForm(39, 3, 2, q, storedEight);
                case 6: return storeForm(35, 2, 2, q, storedFour);
                default: return storeForm(35, 3, 2, q, storedEight);
            }
        }

        private static int movingForm(int h, int r, int q) {
            boolean marked = bits(h, 12, 12) == 1;
            if (q != 0) {
                return registerForm(51, r, 0, marked ? r : 0, q, 0);
            }
            if (r != 0) {
                return immediateForm(103, marked ? 1 : 0, 0, r, 0);
            }
            return marked ? immediateForm(115, 0, 0, 0, 1) : 0;
        }
    }

    /** Part 3: floating point, worked out on bits alone. */
    private static final class Floats {
        // What comes out of an instruction; ZERO to NO_NUMBER are in its format, with resultSign.
        static final int ILLEGAL = 0, INTEGER = 1;
        private static final int BITS = 2, ZERO = 3, FINITE = 4, INFINITE = 5, NO_NUMBER = 6, SIGNALING = 7;
        private static final int INEXACT = 1, UNDERFLOW = 2, OVERFLOW = 4, DIVIDED = 8, INVALID = 16;
        private static final long BOX = 0xFFFFFFFFL << 32;
        private static final int QUOTIENT_BITS = 58;

        final long[] registers = new long[32];
        int flags;
        int mode;
        long answer;
        boolean hasWritten;
        // The operands as read: ZERO to SIGNALING. A finite one is digits * 2^(scale - 63), with the highest bit
        // of digits 1 and its lowest 11 bits 0.
        private final int[] kinds = new int[3];
        private final int[] signs = new int[3];
        private final int[] scales = new int[3];
        private final long[] digits = new long[3];
        private final long[] magnitudes = new long[3];
        private boolean isSingle;
        private int fractionBits;
        private int bias;
        private long infinity;
        private int rounding;
        private int raised;
        private int resultSign;
        // A finite result, before it is rounded, is (high, low) * 2^(resultScale - 127); the lowest bit of low
        // also stands for all bits below it.
        private int resultScale;
        private long high;
        private long low;

        void reset() {
            Arrays.fill(registers, 0L);
            flags = 0;
            mode = 0;
        }

        void keep(int d, long bits, boolean single) {
            registers[d] = single ? bits | BOX : bits;
        }

        private void setFormat(boolean single) {
            isSingle = single;
            fractionBits = single ? 23 : 52;
            bias = single ? 127 : 1023;
            infinity = (2L * bias + 1) << fractionBits;
        }

        private long signed(int sign, long magnitude) {
            return (long) sign << (isSingle ? 31 : 63) | magnitude;
        }

        private long quietOne() {
            return infinity | 1L << fractionBits - 1;
        }

        private void read(int slot, int register) {
            long bits = registers[register];
            if (isSingle) {
                bits = (bits & BOX) == BOX ? bits & ~BOX : quietOne();
            }
            long magnitude = bits & ~signed(1, 0);
            long fraction = magnitude & (1L << fractionBits) - 1;
            int e = (int) (magnitude >>> fractionBits);
            signs[slot] = magnitude == bits ? 0 : 1;
            magnitudes[slot] = magnitude;
            if (e == 2 * bias + 1) {
                boolean isQuiet = fraction >>> fractionBits - 1 == 1;
                kinds[slot] = fraction == 0 ? INFINITE : isQuiet ? NO_NUMBER : SIGNALING;
            } else if (magnitude == 0) {
                kinds[slot] = ZERO;
            } else {
                long whole = e == 0 ? fraction : fraction | 1L << fractionBits;
                int zeros = Long.numberOfLeadingZeros(whole);
                kinds[slot] = FINITE;
                digits[slot] = whole << zeros;
                scales[slot] = (e == 0 ? 1 : e) - bias - fractionBits + 63 - zeros;
            }
        }

        private void readOne(int slot) {
            kinds[slot] = FINITE;
            signs[slot] = 0;
            scales[slot] = 0;
            digits[slot] = Long.MIN_VALUE;
        }

        /** Does an instruction; v is the integer that it may take. An integer that comes out is in answer. */
        int perform(int w, long v) {
            int t = w >>> 25 & 3;
            int r = w >>> 12 & 7;
            int k = w >>> 27;
            raised = 0;
            setFormat(t == 0);
            rounding = r == 7 ? mode : r;
            boolean isArithmetic = (w & 127) != 83 || k < 4;
            int came = t > 1 ? ILLEGAL : isArithmetic ? calculate(w, k) : performOther(w, k, v);
            switch (came) {
                case ILLEGAL: case INTEGER: case BITS: break;
                case ZERO: answer = signed(resultSign, 0); break;
                case FINITE: answer = rounded(); break;
                case INFINITE: answer = signed(resultSign, infinity); break;
                default: answer = quietOne(); break;
            }
            if (came > INTEGER) {
                keep(w >>> 7 & 31, answer, isSingle);
            }
            flags |= raised;
            hasWritten = came > INTEGER || raised != 0;
            return came;
        }

        private int calculate(int w, int k) {
            int code = w & 127;
            if (rounding > 4) {
                return ILLEGAL;
            }
            read(0, w >>> 15 & 31);
            if (code == 83 && k < 2) {
                readOne(1);
                read(2, w >>> 20 & 31);
                signs[2] ^= k;
                return fuse();
            }
            read(1, w >>> 20 & 31);
            if (code == 83) {
                return k == 2 ? multiply() : divide();
            }
            read(2, k);
            signs[0] ^= code == 75 || code == 79 ? 1 : 0;
            signs[2] ^= code == 71 || code == 79 ? 1 : 0;
            return fuse();
        }

        private int performOther(int w, int k, long v) {
            int r = w >>> 12 & 7;
            int a = w >>> 15 & 31;
            int b = w >>> 20 & 31;
            switch (k) {
                case 4: return r > 2 ? ILLEGAL : injectSign(r, a, b);
                case 5: return r > 1 ? ILLEGAL : chooseOne(r, a, b);
                case 8: return rounding > 4 || b != (isSingle ? 1 : 0) ? ILLEGAL : convertFormat(a);
                case 11: return rounding > 4 || b != 0 ? ILLEGAL : takeRoot(a);
                case 20: return r > 2 ? ILLEGAL : compareBoth(r, a, b);
                case 24: return rounding > 4 || b > 3 ? ILLEGAL : toInteger(b, a);
                case 26: return rounding > 4 || b > 3 ? ILLEGAL : fromInteger(b, v);
                case 28: return b != 0 || r > 1 ? ILLEGAL : examine(r, a);
                case 30: return b != 0 || r != 0 ? ILLEGAL : give(isSingle ? v & 0xFFFFFFFFL : v, BITS);
                default: return ILLEGAL;
            }
        }

        private int give(long bits, int kind) {
            answer = bits;
            return kind;
        }

        private boolean isNoNumber(int slot) {
            return kinds[slot] >= NO_NUMBER;
        }

        private int raiseInvalid() {
            raised |= INVALID;
            return NO_NUMBER;
        }

        /** What comes of so many operands of which one is no number. */
        private int spoil(int operands) {
            for (int i = 0; i < operands; i++) {
                raised |= kinds[i] == SIGNALING ? INVALID : 0;
            }
            return NO_NUMBER;
        }

        /** What comes of operand 0 times operand 1, finite ones being left in high and low with the highest bit 1. */
        private int multiply() {
            resultSign = signs[0] ^ signs[1];
            if (kinds[0] == ZERO && kinds[1] == INFINITE || kinds[0] == INFINITE && kinds[1] == ZERO) {
                return raiseInvalid();
            }
            if (isNoNumber(0) || isNoNumber(1)) {
                return spoil(2);
            }
            if (kinds[0] != FINITE || kinds[1] != FINITE) {
                return kinds[0] == INFINITE || kinds[1] == INFINITE ? INFINITE : ZERO;
            }
            resultScale = scales[0] + scales[1] + 1;
            high = Core.upperProduct(digits[0], digits[1]);
            low = digits[0] * digits[1];
            if (high >= 0) {
                high = high << 1 | low >>> 63;
                low <<= 1;
                resultScale--;
            }
            return FINITE;
        }

        private int divide() {
            resultSign = signs[0] ^ signs[1];
            if (isNoNumber(0) || isNoNumber(1)) {
                return spoil(2);
            }
            if (kinds[0] == kinds[1] && kinds[0] != FINITE) {
                return raiseInvalid();
            }
            if (kinds[0] == INFINITE || kinds[1] == ZERO) {
                raised |= kinds[0] == INFINITE ? 0 : DIVIDED;
                return INFINITE;
            }
            if (kinds[0] == ZERO || kinds[1] == INFINITE) {
                return ZERO;
            }
            long rest = digits[0] >>> 11;
            long by = digits[1] >>> 11;
            long quotient = 0;
            for (int i = 0; i < QUOTIENT_BITS; i++) {
                quotient <<= 1;
                if (rest >= by) {
                    rest -= by;
                    quotient |= 1;
                }
                rest <<= 1;
            }
            high = quotient << 64 - QUOTIENT_BITS;
            low = rest != 0 ? 1 : 0;
            resultScale = scales[0] - scales[1];
            return FINITE;
        }

        private int takeRoot(int a) {
            read(0, a);
            resultSign = signs[0];
            if (isNoNumber(0)) {
                return spoil(1);
            }
            if (kinds[0] == ZERO) {
                return ZERO;
            }
            if (signs[0] == 1) {
                return raiseInvalid();
            }
            if (kinds[0] == INFINITE) {
                return INFINITE;
            }
            // With an even scale, two bits of the number make one bit of the root.
            long bits = (scales[0] & 1) == 0 ? digits[0] >>> 1 : digits[0];
            long rest = 0;
            long root = 0;
            for (int i = 0; i < QUOTIENT_BITS; i++) {
                rest = rest << 2 | bits >>> 62;
                bits <<= 2;
                long trial = root << 2 | 1;
                root <<= 1;
                if (rest >= trial) {
                    rest -= trial;
                    root |= 1;
                }
            }
            high = root << 64 - QUOTIENT_BITS;
            low = rest != 0 ? 1 : 0;
            resultScale = scales[0] >> 1;
            return FINITE;
        }

        /** What comes of operand 0 times operand 1, and operand 2. */
        private int fuse() {
            int product = multiply();
            if (product == NO_NUMBER || isNoNumber(2)) {
                return spoil(3);
            }
            if (product == INFINITE || kinds[2] == INFINITE) {
                if (product == kinds[2] && resultSign != signs[2]) {
                    return raiseInvalid();
                }
                resultSign = product == INFINITE ? resultSign : signs[2];
                return INFINITE;
            }
            if (kinds[2] == ZERO) {
                return product == ZERO ? addZeros() : FINITE;
            }
            if (product == ZERO) {
                resultSign = signs[2];
                resultScale = scales[2];
                high = digits[2];
                low = 0;
                return FINITE;
            }
            return addThird();
        }

        private int addZeros() {
            resultSign = resultSign == signs[2] ? resultSign : rounding == 2 ? 1 : 0;
            return ZERO;
        }

        /** Adds operand 2 to the product in high and low; both are moved by one bit to make room for a carry. */
        private int addThird() {
            int gap = resultScale - scales[2];
            long productHigh = high;
            long productLow = low;
            high = digits[2];
            low = 0;
            shiftRight(gap > 0 ? gap + 1 : 1);
            long thirdHigh = high;
            long thirdLow = low;
            high = productHigh;
            low = productLow;
            shiftRight(gap < 0 ? 1 - gap : 1);
            resultScale = (gap > 0 ? resultScale : scales[2]) + 1;
            if (resultSign == signs[2]) {
                low += thirdLow;
                high += thirdHigh + (Core.below(low, thirdLow) ? 1 : 0);
            } else if (high < thirdHigh || high == thirdHigh && Core.below(low, thirdLow)) {
                resultSign = signs[2];
                high = thirdHigh - high - (Core.below(thirdLow, low) ? 1 : 0);
                low = thirdLow - low;
            } else {
                high = high - thirdHigh - (Core.below(low, thirdLow) ? 1 : 0);
                low = low - thirdLow;
            }
            return high == 0 && low == 0 ? addZeros() : FINITE;
        }

        /** Moves high and low down; the lowest bit also stands for what goes lost. */
        private void shiftRight(int n) {
            if (n <= 0) {
                return;
            }
            long lost;
            if (n < 64) {
                lost = low << 64 - n;
                low = low >>> n | high << 64 - n;
                high >>>= n;
            } else if (n == 64) {
                lost = low;
                low = high;
                high = 0;
            } else {
                lost = n < 128 ? low | high << 128 - n : low | high;
                low = n < 128 ? high >>> n - 64 : 0;
                high = 0;
            }
            low |= lost != 0 ? 1 : 0;
        }

        /** Moves high and low up until the highest bit is 1. */
        private void normalise() {
            if (high == 0) {
                high = low;
                low = 0;
                resultScale -= 64;
            }
            int zeros = Long.numberOfLeadingZeros(high);
            if (zeros > 0) {
                high = high << zeros | low >>> 64 - zeros;
                low <<= zeros;
                resultScale -= zeros;
            }
        }

        private long rounded() {
            normalise();
            long m = high | (low != 0 ? 1 : 0);
            int cut = 63 - fractionBits;
            int missing = 1 - bias - resultScale;
            boolean isTiny = missing > 0;
            long kept = m;
            if (isTiny) {
                kept = missing > 62 ? 1 : m >>> missing | (m << 64 - missing != 0 ? 1 : 0);
                // Just below the least normal number, rounding as if there were no such bound may still reach it.
                isTiny = missing > 1 || m >>> cut != -1L >>> cut || !roundsUp(resultSign, m, cut);
            }
            if ((kept & (1L << cut) - 1) != 0) {
                raised |= isTiny ? INEXACT | UNDERFLOW : INEXACT;
            }
            long whole = (kept >>> cut) + (roundsUp(resultSign, kept, cut) ? 1 : 0);
            if (missing > 0) {
                return signed(resultSign, whole);
            }
            // The highest bit of whole adds the one that is taken off here, a carry one more.
            long magnitude = ((long) (resultScale + bias - 1) << fractionBits) + whole;
            boolean isBeyond = resultScale > bias || magnitude >= infinity;
            return signed(resultSign, isBeyond ? overflown() : magnitude);
        }

        private long overflown() {
            raised |= OVERFLOW | INEXACT;
            boolean isAway = rounding == 0 || rounding == 4 || rounding == (resultSign == 0 ? 3 : 2);
            return isAway ? infinity : infinity - 1;
        }

        /** Whether m without its lowest bits, as many as cut tells, grows by 1 when it is rounded. */
        private boolean roundsUp(int sign, long m, int cut) {
            long rest = m & (1L << cut) - 1;
            long half = 1L << cut - 1;
            switch (rounding) {
                case 0: return rest > half || rest == half && (m >>> cut & 1) == 1;
                case 1: return false;
                case 2: return sign == 1 && rest != 0;
                case 3: return sign == 0 && rest != 0;
                default: return rest >= half;
            }
        }

        private int convertFormat(int a) {
            boolean toSingle = isSingle;
            setFormat(!toSingle);
            read(0, a);
            setFormat(toSingle);
            resultSign = signs[0];
            resultScale = scales[0];
            high = digits[0];
            low = 0;
            return isNoNumber(0) ? spoil(1) : kinds[0];
        }

        private int injectSign(int r, int a, int b) {
            read(0, a);
            read(1, b);
            int sign = r == 0 ? signs[1] : r == 1 ? 1 - signs[1] : signs[0] ^ signs[1];
            return give(signed(sign, magnitudes[0]), BITS);
        }

        private int chooseOne(int r, int a, int b) {
            read(0, a);
            read(1, b);
            spoil(2);
            if (isNoNumber(0) && isNoNumber(1)) {
                return NO_NUMBER;
            }
            boolean isFirst = isNoNumber(1);
            if (!isNoNumber(0) && !isNoNumber(1)) {
                isFirst = r == 0 ? place(0, 1) <= place(1, 1) : place(0, 1) >= place(1, 1);
            }
            int slot = isFirst ? 0 : 1;
            return give(signed(signs[slot], magnitudes[slot]), BITS);
        }

        /** A long that is ordered like the operands; gap is how far the zero with the sign 1 is below the other. */
        private long place(int slot, int gap) {
            return signs[slot] == 1 ? -magnitudes[slot] - gap : magnitudes[slot];
        }

        private int compareBoth(int r, int a, int b) {
            read(0, a);
            read(1, b);
            if (isNoNumber(0) || isNoNumber(1)) {
                spoil(2);
                raised |= r == 2 ? 0 : INVALID;
                return give(0, INTEGER);
            }
            long x = place(0, 0);
            long y = place(1, 0);
            boolean holds = r == 0 ? x <= y : r == 1 ? x < y : x == y;
            return give(holds ? 1 : 0, INTEGER);
        }

        private int toInteger(int b, int a) {
            read(0, a);
            if (kinds[0] == ZERO) {
                return give(0, INTEGER);
            }
            int sign = isNoNumber(0) ? 0 : signs[0];
            if (kinds[0] != FINITE || scales[0] > 63) {
                return giveLimit(b, sign);
            }
            high = digits[0];
            low = 0;
            shiftRight(63 - scales[0]);
            // The last bit before the point, the first behind it, and whatever is below that.
            long ending = (high & 1) << 2 | (low < 0 ? 2 : 0) | (low << 1 != 0 ? 1 : 0);
            long size = high + (roundsUp(sign, ending, 2) ? 1 : 0);
            if (!fits(b, sign, size)) {
                return giveLimit(b, sign);
            }
            raised |= low != 0 ? INEXACT : 0;
            long v = sign == 1 ? -size : size;
            return give(b < 2 ? (int) v : v, INTEGER);
        }

        /** Whether there is an integer of sort b with this sign and size, which is without sign. */
        private static boolean fits(int b, int sign, long size) {
            switch (b) {
                case 0: return size >= 0 && size <= 2147483647L + sign;
                case 1: return sign == 1 ? size == 0 : size >>> 32 == 0;
                case 2: return size >= 0 || sign == 1 && size == Long.MIN_VALUE;
                default: return sign == 0 || size == 0;
            }
        }

        private int giveLimit(int b, int sign) {
            raised = INVALID;
            switch (b) {
                case 0: return give(sign == 1 ? Integer.MIN_VALUE : Integer.MAX_VALUE, INTEGER);
                case 2: return give(sign == 1 ? Long.MIN_VALUE : Long.MAX_VALUE, INTEGER);
                default: return give(sign == 1 ? 0 : -1, INTEGER);
            }
        }

        private int fromInteger(int b, long v) {
            long counted = b == 0 ? (int) v : b == 1 ? v & 0xFFFFFFFFL : v;
            resultSign = b != 3 && counted < 0 ? 1 : 0;
            resultScale = 63;
            high = resultSign == 1 ? -counted : counted;
            low = 0;
            return counted == 0 ? ZERO : FINITE;
        }

        private int examine(int r, int a) {
            if (r == 0) {
                return give(isSingle ? (int) registers[a] : registers[a], INTEGER);
            }
            read(0, a);
            boolean isNegative = signs[0] == 1;
            boolean isNormal = magnitudes[0] >>> fractionBits != 0;
            int n;
            switch (kinds[0]) {
                case ZERO: n = isNegative ? 3 : 4; break;
                case FINITE: n = isNegative ? isNormal ? 1 : 2 : isNormal ? 6 : 5; break;
                case INFINITE: n = isNegative ? 0 : 7; break;
                case SIGNALING: n = 8; break;
                default: n = 9; break;
            }
            return give(1L << n, INTEGER);
        }
    }

    /** Part 4: control registers and traps, and the way to those that are kept elsewhere. */
    private static final class Controls {
        private static final int STATUS = 768, EXCEPTIONS_HANDED = 770, INTERRUPTS_HANDED = 771, ENABLED = 772;
        private static final int PENDING = 836, TABLE = 384, CYCLES = 2816, INSTRUCTIONS = 2818;
        private static final int MACHINE_VECTORS = 773, MACHINE_COUNTS = 774, MACHINE_PLACE = 833;
        private static final int SUPERVISOR_VECTORS = 261, SUPERVISOR_COUNTS = 262, SUPERVISOR_PLACE = 321;
        private static final long SIE = 1 << 1, MIE = 1 << 3, SPIE = 1 << 5, MPIE = 1 << 7, SPP = 1 << 8;
        private static final long MPP = 3 << 11, FS = 3 << 13, MPRV = 1 << 17, SUM = 1 << 18, MXR = 1 << 19;
        private static final long TVM = 1 << 20, TW = 1 << 21, TSR = 1 << 22;
        private static final long SUPERVISOR_BITS = SIE | SPIE | SPP | FS | SUM | MXR;
        private static final long MACHINE_BITS = SUPERVISOR_BITS | MIE | MPIE | MPP | MPRV | TVM | TW | TSR;
        private static final long OUTSIDE = 1 << 9;
        private static final long ABILITIES = Long.MIN_VALUE | 1 | 1 << 2 | 1 << 3 | 1 << 5 | 1 << 8 | 1 << 12
                | 1 << 18 | 1 << 20;
        private static final int[] ORDER = {11, 3, 7, 9, 1, 5};
        // The registers that are held by their own numbers.
        private static final int[] HELD = {768, 770, 771, 772, 773, 774, 832, 833, 834, 835, 836,
            261, 262, 320, 321, 322, 323, 384, 2816, 2818};

        private final int processor;
        private final Windows windows;
        private final Floats floats;
        private final Finder finder;
        // By their numbers; those that show others, or have no state, stay 0.
        private final long[] held = new long[4096];
        int mode;
        // The lines of part 7 for this processor, as they are now.
        long lines;

        Controls(int processor, Windows windows, Floats floats, Finder finder) {
            this.processor = processor;
            this.windows = windows;
            this.floats = floats;
            this.finder = finder;
        }

        void reset() {
            for (int i = 0; i < HELD.length; i++) {
                held[HELD[i]] = 0;
            }
            mode = 3;
        }

        void countCycle() {
            held[CYCLES]++;
        }

        void countInstruction() {
            held[INSTRUCTIONS]++;
        }

        private boolean has(long bit) {
            return (held[STATUS] & bit) != 0;
        }

        private void mark(long bits, boolean on) {
            held[STATUS] = on ? held[STATUS] | bits : held[STATUS] & ~bits;
        }

        int floatState() {
            return (int) (held[STATUS] >>> 13 & 3);
        }

        void soilFloats() {
            mark(FS, true);
        }

        int previousMode() {
            return (int) (held[STATUS] >>> 11 & 3);
        }

        int dataMode() {
            return has(MPRV) ? previousMode() : mode;
        }

        long table() {
            return held[TABLE];
        }

        boolean mayReachUser() {
            return (held[STATUS] & SUM) != 0;
        }

        boolean mayLoadCode() {
            return (held[STATUS] & MXR) != 0;
        }

        private long pending() {
            return held[PENDING] | lines;
        }

        /** The interrupts that are pending and enabled. */
        long ready() {
            return pending() & held[ENABLED];
        }

        /** The interrupt that is to be taken, or NONE. */
        int due() {
            long ready = ready();
            if (ready == 0) {
                return NONE;
            }
            long direct = mode < 3 || has(MIE) ? ready & ~held[INTERRUPTS_HANDED] : 0;
            long handed = mode == 0 || mode == 1 && has(SIE) ? ready & held[INTERRUPTS_HANDED] : 0;
            long some = direct != 0 ? direct : handed;
            for (int i = 0; i < ORDER.length; i++) {
                if ((some >>> ORDER[i] & 1) == 1) {
                    return ORDER[i];
                }
            }
            return NONE;
        }

        /** Answers where it goes on. */
        long trap(int cause, boolean isInterrupt, long value, long place) {
            long handed = held[isInterrupt ? INTERRUPTS_HANDED : EXCEPTIONS_HANDED];
            boolean toSupervisor = mode < 3 && (handed >>> cause & 1) == 1;
            int first = toSupervisor ? SUPERVISOR_PLACE : MACHINE_PLACE;
            held[first] = place;
            held[first + 1] = isInterrupt ? cause | Long.MIN_VALUE : cause;
            held[first + 2] = value;
            if (toSupervisor) {
                mark(SPP, mode == 1);
                mark(SPIE, has(SIE));
                mark(SIE, false);
                mode = 1;
            } else {
                mark(MPP, false);
                mark((long) mode << 11, true);
                mark(MPIE, has(MIE));
                mark(MIE, false);
                mode = 3;
            }
            long vectors = held[toSupervisor ? SUPERVISOR_VECTORS : MACHINE_VECTORS];
            return (vectors & -4L) + (isInterrupt && (vectors & 1) == 1 ? 4L * cause : 0);
        }

        boolean mayReturn(int k) {
            return mode == 3 || k == 258 && mode == 1 && !has(TSR);
        }

        boolean mayWait() {
            return mode == 3 || mode == 1 && !has(TW);
        }

        boolean mayFence() {
            return mode == 3 || mode == 1 && !has(TVM);
        }

        long returnOfMachine() {
            mark(MIE, has(MPIE));
            mark(MPIE, true);
            enter(previousMode());
            mark(MPP, false);
            return held[MACHINE_PLACE];
        }

        long returnOfSupervisor() {
            mark(SIE, has(SPIE));
            mark(SPIE, true);
            enter(has(SPP) ? 1 : 0);
            mark(SPP, false);
            return held[SUPERVISOR_PLACE];
        }

        private void enter(int next) {
            mode = next;
            if (next != 3) {
                mark(MPRV, false);
            }
        }

        boolean permits(int k, boolean writing) {
            if (!exists(k) || (k >>> 8 & 3) > mode || writing && k >>> 10 == 3) {
                return false;
            }
            if (k <= 3) {
                return floatState() != 0;
            }
            if (k == TABLE) {
                return mode != 1 || !has(TVM);
            }
            if (k >= 3072 && k <= 3074) {
                int bit = k - 3072;
                boolean closed = mode < 3 && (held[MACHINE_COUNTS] >>> bit & 1) == 0;
                return !closed && (mode != 0 || (held[SUPERVISOR_COUNTS] >>> bit & 1) == 1);
            }
            return true;
        }

        private static boolean exists(int k) {
            switch (k) {
                case 1: case 2: case 3: case 928: case 930:
                case 256: case 260: case 261: case 262: case 320: case 321: case 322: case 323: case 324: case 384:
                case 768: case 769: case 770: case 771: case 772: case 773: case 774:
                case 832: case 833: case 834: case 835: case 836: case 2816: case 2818:
                case 3072: case 3073: case 3074: case 3857: case 3858: case 3859: case 3860: case 3861: return true;
                default: return k >= 944 && k <= 959;
            }
        }

        /** What reading a register shows; 0 for none. */
        long show(int k) {
            switch (k) {
                case 1: return floats.flags;
                case 2: return floats.mode;
                case 3: return floats.flags | floats.mode << 5;
                case STATUS: return held[STATUS] | 10L << 32 | soiled();
                case 256: return held[STATUS] & SUPERVISOR_BITS | 2L << 32 | soiled();
                case 769: return ABILITIES;
                case 260: return held[ENABLED] & held[INTERRUPTS_HANDED];
                case PENDING: return pending();
                case 324: return pending() & held[INTERRUPTS_HANDED];
                case 928: return finder.configs();
                case 3072: return held[CYCLES];
                case 3073: return windows.time;
                case 3074: return held[INSTRUCTIONS];
                case 3860: return processor;
                default: break;
            }
            if (k >= 944 && k <= 951) {
                return finder.numbers[k - 944];
            }
            return k >= 0 && k < held.length ? held[k] : 0;
        }

        private long soiled() {
            return floatState() == 3 ? Long.MIN_VALUE : 0;
        }

        /** Writes, sets or clears by an operation 1, 2, 3. */
        void change(int k, int operation, long operand) {
            // What the outside line shows must not be kept as if it had been written.
            long before = k == PENDING ? held[PENDING] | lines & ~OUTSIDE : show(k);
            write(k, operation == 1 ? operand : operation == 2 ? before | operand : before & ~operand);
        }

        private void write(int k, long v) {
            switch (k) {
                case 1: case 2: case 3: writeFloats(k, (int) v); break;
                case 256: writeStatus(v, SUPERVISOR_BITS); break;
                case STATUS: writeStatus(v, MACHINE_BITS); break;
                case EXCEPTIONS_HANDED: blend(k, v, 46079); break;
                case INTERRUPTS_HANDED: blend(k, v, 546); break;
                case ENABLED: blend(k, v, 2730); break;
                case 260: blend(ENABLED, v, held[INTERRUPTS_HANDED]); break;
                case PENDING: blend(k, v, 546); break;
                case 324: blend(PENDING, v, held[INTERRUPTS_HANDED] & 2); break;
                case MACHINE_VECTORS: case SUPERVISOR_VECTORS: held[k] = v & ~2L; break;
                case MACHINE_PLACE: case SUPERVISOR_PLACE: held[k] = v & ~1L; break;
                case MACHINE_COUNTS: case SUPERVISOR_COUNTS: held[k] = v & 7; break;
                case TABLE: writeTable(v); break;
                case 832: case 834: case 835: case 320: case 322: case 323: case CYCLES: case INSTRUCTIONS:
                    held[k] = v;
                    break;
                case 928: finder.setConfigs(v); break;
                default:
                    if (k >= 944 && k <= 951) {
                        finder.setNumber(k - 944, v);
                    }
                    break;
            }
        }

        private void blend(int k, long v, long mask) {
            held[k] = held[k] & ~mask | v & mask;
        }

        private void writeFloats(int k, int v) {
            if (k == 1 || k == 3) {
                floats.flags = v & 31;
            }
            if (k == 2 || k == 3) {
                floats.mode = (k == 3 ? v >>> 5 : v) & 7;
            }
            soilFloats();
        }

        private void writeStatus(long v, long mask) {
            boolean isNoMode = (v & MPP) == 2 << 11;
            blend(STATUS, v, isNoMode ? mask & ~MPP : mask);
        }

        private void writeTable(long v) {
            long sort = v >>> 60;
            if (sort == 0 || sort == 8 || sort == 9) {
                held[TABLE] = v;
            }
        }
    }

    /** Part 5: the regions of a processor, and the way from an address to a physical one. */
    private static final class Finder {
        static final int FETCHING = 0, LOADING = 1, STORING = 2;
        private static final int VALID = 1, READABLE = 2, WRITABLE = 4, RUNNABLE = 8, USERS = 16, USED = 64, DIRTY = 128;
        private static final int LOCKED = 128;
        // By access: the bit of a config that lets it through, and the two faults of it.
        private static final int[] RIGHTS = {4, 1, 2};
        private static final int[] ACCESS_FAULTS = {1, 5, 7};
        private static final int[] PAGE_FAULTS = {12, 13, 15};
        private static final long NUMBER_MASK = (1L << 54) - 1;
        private static final long PAGE_MASK = (1L << 44) - 1;

        private final Memory memory;
        private final int[] configs = new int[8];
        final long[] numbers = new long[8];
        // What each region covers, from one address on to before another one.
        private final long[] from = new long[8];
        private final long[] to = new long[8];
        // No region from this one on covers anything.
        private int used;
        long physical;
        // The last entry of the latest walk, and where it stands.
        private long lastAt;
        private long lastEntry;

        Finder(Memory memory) {
            this.memory = memory;
        }

        void reset() {
            for (int i = 0; i < 8; i++) {
                configs[i] = 0;
                numbers[i] = 0;
            }
            measureAll();
        }

        long configs() {
            long v = 0;
            for (int i = 7; i >= 0; i--) {
                v = v << 8 | configs[i];
            }
            return v;
        }

        void setConfigs(long v) {
            for (int i = 0; i < 8; i++) {
                int config = (int) (v >>> 8 * i) & 0x9F;
                if ((configs[i] & LOCKED) == 0) {
                    configs[i] = (config & 3) == 2 ? config & ~2 : config;
                }
            }
            measureAll();
        }

        void setNumber(int i, long v) {
            boolean held = (configs[i] & LOCKED) != 0
                    || i < 7 && (configs[i + 1] & LOCKED) != 0 && (configs[i + 1] >>> 3 & 3) == 1;
            if (!held) {
                numbers[i] = v & NUMBER_MASK;
                measureAll();
            }
        }

        private void measureAll() {
            used = 0;
            for (int i = 0; i < 8; i++) {
                long begin = 4 * numbers[i];
                long size = 0;
                switch (configs[i] >>> 3 & 3) {
                    case 1:
                        begin = i == 0 ? 0 : 4 * numbers[i - 1];
                        size = 4 * numbers[i] - begin;
                        break;
                    case 2: size = 4; break;
                    case 3:
                        size = 8L << Long.numberOfTrailingZeros(~numbers[i]);
                        begin = begin & -(size >> 1);
                        break;
                    default: break;
                }
                from[i] = begin;
                to[i] = size > 0 ? begin + size : 0;
                used = size > 0 ? i + 1 : used;
            }
        }

        private boolean letsThrough(long at, int n, int access, int mode) {
            for (int i = 0; i < used; i++) {
                if (at < to[i] && from[i] < at + n) {
                    boolean isFree = mode == 3 && (configs[i] & LOCKED) == 0;
                    return from[i] <= at && at + n <= to[i] && (isFree || (configs[i] & RIGHTS[access]) != 0);
                }
            }
            return mode == 3;
        }

        boolean isWritable(long at) {
            for (int i = 0; i < used; i++) {
                if (at < to[i] && from[i] <= at) {
                    return (configs[i] & RIGHTS[STORING]) != 0;
                }
            }
            return false;
        }

        /** Answers the fault, or 0 when physical has the address. */
        int find(long a, int access, int n, int mode, Controls controls) {
            int sort = (int) (controls.table() >>> 60);
            int fault = 0;
            if (mode == 3 || sort == 0) {
                physical = a;
                fault = a >>> 56 == 0 ? 0 : ACCESS_FAULTS[access];
            } else {
                fault = walk(a, access, mode, sort == 8 ? 3 : 4, controls);
                fault = fault == 0 ? leaveMarks(access) : fault;
            }
            if (fault == 0 && !letsThrough(physical, n, access, mode)) {
                fault = ACCESS_FAULTS[access];
            }
            return fault;
        }

        /** Answers the fault, or 0 when physical has the address and the last entry is known. */
        private int walk(long a, int access, int mode, int depths, Controls controls) {
            long sign = a >> 9 * depths + 11;
            if (sign != 0 && sign != -1) {
                return PAGE_FAULTS[access];
            }
            long page = controls.table() & PAGE_MASK;
            for (int i = depths - 1; i >= 0; i--) {
                long at = 4096 * page + 8 * (a >>> 12 + 9 * i & 511);
                if (!memory.holds(at, 8) || !letsThrough(at, 8, LOADING, 1)) {
                    return ACCESS_FAULTS[access];
                }
                long entry = memory.number(at, 8);
                page = entry >>> 10 & PAGE_MASK;
                if ((entry & VALID) == 0 || (entry & (READABLE | WRITABLE)) == WRITABLE || entry >>> 54 != 0) {
                    return PAGE_FAULTS[access];
                }
                if ((entry & (READABLE | RUNNABLE)) != 0) {
                    long within = (1L << 12 + 9 * i) - 1;
                    if ((4096 * page & within) != 0 || !grants(entry, access, mode, controls)) {
                        return PAGE_FAULTS[access];
                    }
                    physical = 4096 * page | a & within;
                    lastAt = at;
                    lastEntry = entry;
                    return 0;
                }
                if ((entry & (USERS | USED | DIRTY)) != 0) {
                    return PAGE_FAULTS[access];
                }
            }
            return PAGE_FAULTS[access];
        }

        private static boolean grants(long entry, int access, int mode, Controls controls) {
            boolean isUsers = (entry & USERS) != 0;
            if (mode == 0 && !isUsers || mode == 1 && isUsers && (access == FETCHING || !controls.mayReachUser())) {
                return false;
            }
            switch (access) {
                case FETCHING: return (entry & RUNNABLE) != 0;
                case LOADING: return (entry & READABLE) != 0 || controls.mayLoadCode();
                default: return (entry & WRITABLE) != 0;
            }
        }

        private int leaveMarks(int access) {
            int marks = access == STORING ? USED | DIRTY : USED;
            if ((lastEntry & marks) == marks) {
                return 0;
            }
            if (!letsThrough(lastAt, 8, STORING, 1)) {
                return ACCESS_FAULTS[access];
            }
            memory.put(lastAt, 8, lastEntry | marks);
            return 0;
        }
    }

    /** What stands at physical addresses beside MEMORY: the end and the timer here, and the ways to the others. */
    private static final class Windows {
        private static final long END_AT = 1048576, TIMER_AT = 33554432, CONTROLLER_AT = 201326592;
        private static final long SERIAL_AT = 268435456, DISK_AT = 268439552;
        private static final int COMPARES_AT = 16384, TIME_AT = 49144;
        private static final int ROUNDS_A_TICK = 10;

        final Controller controller;
        private final Serial serial;
        private final Disk disk;
        private final int[] softs;
        private final long[] compares;
        private int rounds;
        long time;
        // Whether something was read or written that may change signals.
        boolean isTouched;
        boolean ended;
        int endCode;

        Windows(int processors, Serial serial, Disk disk) {
            this.serial = serial;
            this.disk = disk;
            controller = new Controller(2 * processors);
            softs = new int[processors];
            compares = new long[processors];
            Arrays.fill(compares, -1L);
        }

        void countRound() {
            rounds++;
            if (rounds == ROUNDS_A_TICK) {
                rounds = 0;
                time++;
            }
        }

        void feelSignals() {
            isTouched = false;
            controller.feel((disk.causes != 0 ? 1 << 1 : 0) | (serial.reason() != 1 ? 1 << 10 : 0));
        }

        long lines(int h) {
            long on = softs[h] == 1 ? 1 << 3 : 0;
            on |= Core.below(time, compares[h]) ? 0 : 1 << 7;
            on |= controller.calls(2 * h) ? 1 << 11 : 0;
            return on | (controller.calls(2 * h + 1) ? 1 << 9 : 0);
        }

        private static boolean isWithin(long physical, long begin, int size) {
            return physical >= begin && physical < begin + size;
        }

        boolean covers(long physical) {
            return isWithin(physical, END_AT, 4096) || isWithin(physical, TIMER_AT, 65536)
                    || isWithin(physical, CONTROLLER_AT, 4194304) || isWithin(physical, SERIAL_AT, 256)
                    || isWithin(physical, DISK_AT, 4096);
        }

        long read(long physical, int n) {
            isTouched = true;
            if (isWithin(physical, TIMER_AT, 65536)) {
                return readTimer((int) (physical - TIMER_AT), n);
            }
            if (n == 4 && isWithin(physical, CONTROLLER_AT, 4194304)) {
                return controller.read((int) (physical - CONTROLLER_AT)) & 0xFFFFFFFFL;
            }
            if (n == 1 && isWithin(physical, SERIAL_AT, 256)) {
                return serial.read((int) (physical - SERIAL_AT));
            }
            if (n == 4 && isWithin(physical, DISK_AT, 4096)) {
                return disk.read((int) (physical - DISK_AT)) & 0xFFFFFFFFL;
            }
            return 0;
        }

        void write(long physical, int n, long v) {
            isTouched = true;
            if (n == 4 && physical == END_AT) {
                writeEnd((int) v);
            } else if (isWithin(physical, TIMER_AT, 65536)) {
                writeTimer((int) (physical - TIMER_AT), n, v);
            } else if (n == 4 && isWithin(physical, CONTROLLER_AT, 4194304)) {
                controller.write((int) (physical - CONTROLLER_AT), (int) v);
            } else if (n == 1 && isWithin(physical, SERIAL_AT, 256)) {
                serial.write((int) (physical - SERIAL_AT), (int) v & 255);
            } else if (n == 4 && isWithin(physical, DISK_AT, 4096)) {
                disk.write((int) (physical - DISK_AT), (int) v);
            }
        }

        private void writeEnd(int v) {
            int lowest = v & 65535;
            if (lowest == 21845 || lowest == 13107) {
                ended = true;
                endCode = lowest == 21845 ? 0 : v >>> 16;
            }
        }

        private long readTimer(int offset, int n) {
            int h = (offset - COMPARES_AT) >> 3;
            if (n == 4 && offset < 4 * softs.length) {
                return softs[offset >>> 2];
            }
            if (n >= 4 && h >= 0 && h < compares.length) {
                return part(compares[h], offset, n);
            }
            return n >= 4 && (offset & -8) == TIME_AT ? part(time, offset, n) : 0;
        }

        private void writeTimer(int offset, int n, long v) {
            int h = (offset - COMPARES_AT) >> 3;
            if (n == 4 && offset < 4 * softs.length) {
                softs[offset >>> 2] = (int) v & 1;
            } else if (n >= 4 && h >= 0 && h < compares.length) {
                compares[h] = joined(compares[h], offset, n, v);
            } else if (n >= 4 && (offset & -8) == TIME_AT) {
                time = joined(time, offset, n, v);
            }
        }

        private static long part(long whole, int offset, int n) {
            if (n == 8) {
                return whole;
            }
            return (offset & 4) == 0 ? whole & 0xFFFFFFFFL : whole >>> 32;
        }

        private static long joined(long whole, int offset, int n, long v) {
            if (n == 8) {
                return v;
            }
            long lower = v & 0xFFFFFFFFL;
            return (offset & 4) == 0 ? whole & ~0xFFFFFFFFL | lower : whole & 0xFFFFFFFFL | lower << 32;
        }
    }

    /** The controller of part 7; sets of sources are the bits of an int. */
    private static final class Controller {
        private static final int WAITING_AT = 4096, ENABLES_AT = 8192, CONTEXTS_AT = 2097152;

        private final int contexts;
        private final int[] priorities = new int[32];
        private final int[] enables;
        private final int[] thresholds;
        private int waiting;
        private int served;
        long breaches;

        Controller(int contexts) {
            this.contexts = contexts;
            enables = new int[contexts];
            thresholds = new int[contexts];
        }

        /** Lets the sources whose signals are on wait, but for those that are served. */
        void feel(int on) {
            waiting |= on & ~served;
        }

        boolean calls(int c) {
            int some = waiting & enables[c];
            return some != 0 && priorities[greatest(some)] > thresholds[c];
        }

        /** Of some sources the one with the greatest priority, of several the least. */
        private int greatest(int some) {
            int best = 0;
            for (int s = 1; s < 32; s++) {
                if ((some >>> s & 1) == 1 && (best == 0 || priorities[s] > priorities[best])) {
                    best = s;
                }
            }
            return best;
        }

        int read(int offset) {
            if (offset < 128) {
                return priorities[offset >>> 2];
            }
            if (offset == WAITING_AT) {
                return waiting;
            }
            int c = contextAt(offset);
            if (c == NONE) {
                return 0;
            }
            if (offset < CONTEXTS_AT) {
                return enables[c];
            }
            return (offset & 4) == 0 ? thresholds[c] : claim(c);
        }

        void write(int offset, int v) {
            if (offset >= 4 && offset < 128) {
                priorities[offset >>> 2] = v & 7;
                return;
            }
            int c = contextAt(offset);
            if (c == NONE) {
                return;
            }
            if (offset < CONTEXTS_AT) {
                enables[c] = v & ~1;
            } else if ((offset & 4) == 0) {
                thresholds[c] = v & 7;
            } else {
                complete(c, v);
            }
        }

        /** The context of which something stands at an offset, or NONE. */
        private int contextAt(int offset) {
            int c = NONE;
            if (offset >= CONTEXTS_AT) {
                c = (offset & 4095) <= 4 ? offset - CONTEXTS_AT >>> 12 : NONE;
            } else if (offset >= ENABLES_AT) {
                c = (offset & 127) == 0 ? offset - ENABLES_AT >>> 7 : NONE;
            }
            return c < contexts ? c : NONE;
        }

        private int claim(int c) {
            int some = waiting & enables[c];
            int s = greatest(some);
            if (priorities[s] == 0) {
                return 0;
            }
            if ((served >>> s & 1) == 1) {
                breaches++;
            }
            waiting &= ~(1 << s);
            served |= 1 << s;
            return s;
        }

        private void complete(int c, int s) {
            if (s > 0 && s < 32 && (enables[c] >>> s & 1) == 1) {
                served &= ~(1 << s);
            }
        }
    }

    /** The serial line of part 7, with INPUT before it and what was OUT behind it. */
    private static final class Serial {
        private static final int INPUT_LIMIT = 65536, OUT_LIMIT = 4096;
        private static final int QUEUE_ROOM = 16;

        private final byte[] input = new byte[INPUT_LIMIT];
        private int inputFirst;
        int inputCount;
        private final byte[] out = new byte[OUT_LIMIT];
        long sent;
        private final int[] in = new int[QUEUE_ROOM];
        private int inFirst;
        private int inCount;
        private int room = 1;
        private boolean isOverrun;
        private boolean isEmptied;
        // Registers 0 and 1 here are those that stand behind bit 7 of register 3.
        private final int[] held = new int[8];
        private int enabled;
        long breaches;

        /** Puts a tape behind INPUT; answers how many of its bytes there was room for. */
        int enqueue(byte[] tape, int count) {
            int taken = count < INPUT_LIMIT - inputCount ? count : INPUT_LIMIT - inputCount;
            for (int i = 0; i < taken; i++) {
                input[inputFirst + inputCount & INPUT_LIMIT - 1] = tape[i];
                inputCount++;
            }
            return taken;
        }

        /** The first byte of INPUT comes, if it may; answers whether it did. */
        boolean arrive() {
            if (inputCount == 0 || inCount >= room) {
                return false;
            }
            int v = input[inputFirst] & 255;
            inputFirst = inputFirst + 1 & INPUT_LIMIT - 1;
            inputCount--;
            if (!receive(v)) {
                breaches++;
            }
            return true;
        }

        private boolean receive(int v) {
            if (inCount >= room) {
                isOverrun = true;
                return false;
            }
            in[inFirst + inCount & QUEUE_ROOM - 1] = v;
            inCount++;
            return true;
        }

        int sentByte(long k) {
            return k >= 0 && k < sent && k >= sent - OUT_LIMIT ? out[(int) (k & OUT_LIMIT - 1)] & 255 : NONE;
        }

        /** The cause for which the line wants to be served; 1 is none. */
        int reason() {
            if ((enabled & 4) != 0 && isOverrun) {
                return 6;
            }
            if ((enabled & 1) != 0 && inCount > 0) {
                return 4;
            }
            return (enabled & 2) != 0 && isEmptied ? 2 : 1;
        }

        private boolean isBehind(int offset) {
            return offset < 2 && (held[3] & 128) != 0;
        }

        int read(int offset) {
            if (isBehind(offset)) {
                return held[offset];
            }
            switch (offset) {
                case 0: return takeFirst();
                case 1: return enabled;
                case 2: return tellReason();
                case 3: case 4: case 7: return held[offset];
                case 5: return tellLine();
                case 6: return tellModem();
                default: return 0;
            }
        }

        private int takeFirst() {
            if (inCount == 0) {
                return 0;
            }
            int v = in[inFirst];
            inFirst = inFirst + 1 & QUEUE_ROOM - 1;
            inCount--;
            return v;
        }

        private int tellReason() {
            int reason = reason();
            if (reason == 2) {
                isEmptied = false;
            }
            return reason | (room == QUEUE_ROOM ? 192 : 0);
        }

        private int tellLine() {
            int v = 96 | (inCount > 0 ? 1 : 0) | (isOverrun ? 2 : 0);
            isOverrun = false;
            return v;
        }

        private int tellModem() {
            int m = held[4];
            if ((m & 16) == 0) {
                return 176;
            }
            return (m & 2) << 3 | (m & 1) << 5 | (m & 4) << 4 | (m & 8) << 4;
        }

        void write(int offset, int v) {
            if (isBehind(offset)) {
                held[offset] = v;
                return;
            }
            switch (offset) {
                case 0: send(v); break;
                case 1:
                    isEmptied |= (v & 2) != 0 && (enabled & 2) == 0;
                    enabled = v & 15;
                    break;
                case 2: setQueue(v); break;
                case 3: case 7: held[offset] = v; break;
                case 4: held[4] = v & 31; break;
                default: break;
            }
        }

        private void send(int v) {
            if ((held[4] & 16) != 0) {
                receive(v);
            } else {
                out[(int) (sent & OUT_LIMIT - 1)] = (byte) v;
                sent++;
            }
            isEmptied = true;
        }

        private void setQueue(int v) {
            int wanted = (v & 1) != 0 ? QUEUE_ROOM : 1;
            if (wanted != room || (v & 2) != 0) {
                inCount = 0;
            }
            room = wanted;
        }
    }

    /** Part 8: the block device and its disk. */
    private static final class Disk {
        private static final int SECTOR = 512, SECTORS_THERE = 2048, SECTORS_AT_ONCE = 64;
        private static final int REQUESTS_AT_ONCE = 64, QUEUE_LIMIT = 16;
        private static final int NAME_LENGTH = 20;
        private static final int[] NAME = {98, 108, 111, 99, 107};
        private static final int MORE = 1, OPEN = 2, REFUSED = 4;
        private static final int RUNNING = 4, BROKEN = 64;
        private static final int RESULT_DONE = 0, RESULT_WRONG = 1, RESULT_UNKNOWN = 2;

        private final Memory memory;
        final byte[] sectors = new byte[SECTOR * SECTORS_THERE];
        int changed;
        int causes;
        boolean isCalled;
        private int offeredSelect;
        private int queueSelect;
        private int state;
        private int queueSize = QUEUE_LIMIT;
        private boolean isReady;
        private long blocksAt;
        private long offersAt;
        private long answersAt;
        private int taken;
        private int answered;
        // The blocks of the request that is being done: addresses, lengths, and how many are closed, and all.
        private final long[] addresses = new long[QUEUE_LIMIT];
        private final long[] lengths = new long[QUEUE_LIMIT];
        private int closedCount;
        private int blockCount;

        Disk(Memory memory) {
            this.memory = memory;
        }

        boolean holds(long sector, long count) {
            return sector >= 0 && sector < SECTORS_THERE && count <= (SECTORS_THERE - sector) * SECTOR;
        }

        void fill(long sector, byte[] tape, int count) {
            if (count > 0) {
                System.arraycopy(tape, 0, sectors, (int) sector * SECTOR, count);
            }
        }

        int read(int offset) {
            switch (offset) {
                case 0: return 1953655158;
                case 4: case 8: return 2;
                case 16: return offeredSelect == 0 ? 512 : offeredSelect == 1 ? 1 : 0;
                case 52: return queueSelect == 0 ? QUEUE_LIMIT : 0;
                case 68: return isReady && queueSelect == 0 ? 1 : 0;
                case 96: return causes;
                case 112: return state;
                case 256: return SECTORS_THERE;
                default: return 0;
            }
        }

        void write(int offset, int v) {
            switch (offset) {
                case 20: offeredSelect = v; break;
                case 48: queueSelect = v; break;
                case 68: isReady = queueSelect == 0 ? (v & 1) == 1 : isReady; break;
                case 80: isCalled = v == 0; break;
                case 100: causes &= ~v; break;
                case 112: writeState(v); break;
                default:
                    if (queueSelect == 0 && !isReady) {
                        writeQueue(offset, v);
                    }
                    break;
            }
        }

        private void writeQueue(int offset, int v) {
            switch (offset) {
                case 56: queueSize = v >= 1 && v <= QUEUE_LIMIT && (v & v - 1) == 0 ? v : queueSize; break;
                case 128: blocksAt = withLower(blocksAt, v); break;
                case 132: blocksAt = withUpper(blocksAt, v); break;
                case 144: offersAt = withLower(offersAt, v); break;
                case 148: offersAt = withUpper(offersAt, v); break;
                case 160: answersAt = withLower(answersAt, v); break;
                case 164: answersAt = withUpper(answersAt, v); break;
                default: break;
            }
        }

        private static long withLower(long whole, int v) {
            return whole & ~0xFFFFFFFFL | v & 0xFFFFFFFFL;
        }

        private static long withUpper(long whole, int v) {
            return whole & 0xFFFFFFFFL | (long) v << 32;
        }

        private void writeState(int v) {
            if (v != 0) {
                state = v & 255 | state & BROKEN;
                return;
            }
            offeredSelect = 0;
            queueSelect = 0;
            state = 0;
            causes = 0;
            queueSize = QUEUE_LIMIT;
            isReady = false;
            blocksAt = 0;
            offersAt = 0;
            answersAt = 0;
            taken = 0;
            answered = 0;
        }

        /** Works if it was called: behind the step that called it, as amid its store calls would go too deep. */
        void work() {
            if (!isCalled) {
                return;
            }
            isCalled = false;
            if ((state & RUNNING) == 0 || (state & BROKEN) != 0 || !isReady) {
                return;
            }
            int requests = 0;
            boolean isQuiet = false;
            boolean goesOn = true;
            for (int turn = 0; goesOn && turn <= REQUESTS_AT_ONCE; turn++) {
                boolean isThere = memory.holds(offersAt, 4);
                long heading = isThere ? memory.number(offersAt, 4) : 0;
                int ahead = (int) (heading >>> 16) - taken & 65535;
                isQuiet = (heading & 1) == 1;
                goesOn = isThere && ahead != 0 && requests < REQUESTS_AT_ONCE;
                if (!isThere || goesOn && (ahead > queueSize || !answerNext())) {
                    state |= BROKEN;
                    causes |= 2;
                    goesOn = false;
                }
                requests += goesOn ? 1 : 0;
            }
            causes |= requests > 0 && !isQuiet ? 1 : 0;
        }

        /** Does the next request and answers it; answers false, having changed nothing, when the device breaks. */
        private boolean answerNext() {
            long offer = offersAt + 4 + 2 * (taken & queueSize - 1);
            long answer = answersAt + 4 + 8 * (answered & queueSize - 1);
            long count = answersAt + 2;
            if (!memory.holds(offer, 2) || !memory.holds(answer, 8) || !memory.holds(count, 2)) {
                return false;
            }
            int first = (int) memory.number(offer, 2);
            if (!collect(first)) {
                return false;
            }
            int written = serve();
            memory.put(answer, 4, first);
            memory.put(answer + 4, 4, written);
            taken = taken + 1 & 65535;
            answered = answered + 1 & 65535;
            memory.put(count, 2, answered);
            return true;
        }

        /** Reads all blocks of a request; answers whether it may be done. */
        private boolean collect(int first) {
            blockCount = 0;
            closedCount = 0;
            int k = first;
            boolean goesOn = true;
            while (goesOn && blockCount < queueSize) {
                long at = blocksAt + 16L * k;
                if (k >= queueSize || !memory.holds(at, 16)) {
                    return false;
                }
                long length = memory.number(at + 8, 4);
                int marks = (int) memory.number(at + 12, 2);
                boolean isClosed = (marks & OPEN) == 0;
                addresses[blockCount] = memory.number(at, 8);
                lengths[blockCount] = length;
                boolean isThere = length == 0 || memory.holds(addresses[blockCount], length);
                if (!isThere || (marks & REFUSED) != 0 || isClosed && closedCount < blockCount) {
                    return false;
                }
                closedCount += isClosed ? 1 : 0;
                blockCount++;
                k = (int) memory.number(at + 14, 2);
                goesOn = (marks & MORE) != 0;
            }
            return !goesOn && closedCount > 0 && lengths[0] >= 16 && closedCount < blockCount
                    && lengths[blockCount - 1] > 0;
        }

        private long total(int from, int to) {
            long sum = 0;
            for (int i = from; i < to; i++) {
                sum += lengths[i];
            }
            return sum;
        }

        /** Does the request; answers how many bytes were written into open blocks. */
        private int serve() {
            long kind = memory.number(addresses[0], 4);
            long sector = memory.number(addresses[0] + 8, 8);
            long writable = total(closedCount, blockCount) - 1;
            long readable = total(1, closedCount);
            int result = RESULT_DONE;
            int poured = 0;
            if (kind == 0 && areSectors(sector, writable)) {
                poured = (int) writable;
                pour(poured, (int) sector * SECTOR);
            } else if (kind == 1 && areSectors(sector, readable)) {
                gather((int) sector * SECTOR);
                changed += (int) readable / SECTOR;
            } else if (kind == 8) {
                poured = writable < NAME_LENGTH ? (int) writable : NAME_LENGTH;
                pour(poured, NONE);
            } else if (kind != 4) {
                result = kind <= 1 ? RESULT_WRONG : RESULT_UNKNOWN;
            }
            memory.put(addresses[blockCount - 1] + lengths[blockCount - 1] - 1, 1, result);
            return poured + 1;
        }

        private static boolean areSectors(long sector, long count) {
            if (count == 0) {
                return true;
            }
            return count % SECTOR == 0 && count <= SECTORS_AT_ONCE * SECTOR && sector >= 0
                    && sector <= SECTORS_THERE - count / SECTOR;
        }

        /** Fills open blocks with so many bytes, of the disk from a place on, or of the name for NONE. */
        private void pour(int count, int from) {
            int done = 0;
            for (int i = closedCount; i < blockCount; i++) {
                for (int j = 0; j < lengths[i] && done < count; j++) {
                    int letter = done < NAME.length ? NAME[done] : 0;
                    memory.put(addresses[i] + j, 1, from == NONE ? letter : sectors[from + done]);
                    done++;
                }
            }
        }

        /** Fills the disk, from a place on, with the bytes of the closed blocks behind the first one. */
        private void gather(int from) {
            int done = 0;
            for (int i = 1; i < closedCount; i++) {
                for (int j = 0; j < lengths[i]; j++) {
                    sectors[from + done] = (byte) memory.number(addresses[i] + j, 1);
                    done++;
                }
            }
        }
    }

    /** The machine's tree of part 9, as a row of bytes that is made once. */
    private static final class Tree {
        private static final int ROOM = 4096, HEADER = 56;
        private static final int BEGINS = 1, ENDS = 2, PROPERTY = 3, LAST = 9;
        // The names of all properties, in the order in which they come first.
        private static final String NAMES = "#address-cells\0#size-cells\0compatible\0model\0stdout-path\0timebase-frequency\0device_type\0reg\0status\0isa\0mmu-type\0#interrupt-cells\0interrupt-controller\0phandle\0ranges\0interrupts-extended\0sources\0interrupts\0interrupt-parent\0";

        // Eight bytes to a long, the lowest first, as memory has them.
        final long[] row = new long[ROOM / 8];
        int size;

        Tree(int processors) {
            size = HEADER;
            begin("");
            addGeneral();
            for (int h = 0; h < processors; h++) {
                addProcessor(h);
            }
            finish();
            addMemory();
            addDevices(processors);
            finish();
            addNumber(LAST);
            int structure = size - HEADER;
            for (int i = 0; i < NAMES.length(); i++) {
                addByte(NAMES.charAt(i));
            }
            int total = size;
            size = 0;
            addNumber((int) 3490578157L);
            addNumber(total);
            addNumber(HEADER);
            addNumber(HEADER + structure);
            addNumber(40);
            addNumber(17);
            addNumber(16);
            addNumber(0);
            addNumber(NAMES.length());
            addNumber(structure);
            size = total;
        }

        private void addByte(int v) {
            if (size < ROOM) {
                row[size >>> 3] |= (v & 255L) << 8 * (size & 7);
                size++;
            }
        }

        private void addNumber(int v) {
            for (int shift = 24; shift >= 0; shift -= 8) {
                addByte(v >>> shift);
            }
        }

        /** A text, a byte 0, and as many more as make a number of bytes that 4 divides. */
        private void addText(String text) {
            for (int i = 0; i < text.length(); i++) {
                addByte(text.charAt(i));
            }
            for (int i = text.length() & 3; i < 4; i++) {
                addByte(0);
            }
        }

        private void begin(String name) {
            addNumber(BEGINS);
            addText(name);
        }

        private void finish() {
            addNumber(ENDS);
        }

        private void property(String name, int length) {
            addNumber(PROPERTY);
            addNumber(length);
            addNumber(placeOf(name));
        }

        private void textProperty(String name, String text) {
            property(name, text.length() + 1);
            addText(text);
        }

        private void numberProperty(String name, int v) {
            property(name, 4);
            addNumber(v);
        }

        private void regionProperty(long address, int length) {
            property("reg", 16);
            addNumber((int) (address >>> 32));
            addNumber((int) address);
            addNumber(0);
            addNumber(length);
        }

        /** Where a name begins among the names. */
        private static int placeOf(String name) {
            int place = 0;
            for (int i = 0; i < NAMES.length(); i++) {
                if (NAMES.charAt(i) == 0) {
                    if (stands(name, place, i)) {
                        return place;
                    }
                    place = i + 1;
                }
            }
            return 0;
        }

        private static boolean stands(String name, int from, int to) {
            if (name.length() != to - from) {
                return false;
            }
            for (int i = from; i < to; i++) {
                if (NAMES.charAt(i) != name.charAt(i - from)) {
                    return false;
                }
            }
            return true;
        }

        /** Leaves the node of the processors open. */
        private void addGeneral() {
            numberProperty("#address-cells", 2);
            numberProperty("#size-cells", 2);
            textProperty("compatible", "whole,board");
            textProperty("model", "board");
            begin("chosen");
            textProperty("stdout-path", "/soc/serial@10000000");
            finish();
            begin("cpus");
            numberProperty("#address-cells", 1);
            numberProperty("#size-cells", 0);
            numberProperty("timebase-frequency", 10000000);
        }

        private void addMemory() {
            begin("memory@80000000");
            textProperty("device_type", "memory");
            regionProperty(Memory.BASE, Memory.SIZE);
            finish();
        }

        private void addProcessor(int h) {
            begin(h == 0 ? "cpu@0" : h == 1 ? "cpu@1" : h == 2 ? "cpu@2" : "cpu@3");
            textProperty("device_type", "cpu");
            numberProperty("reg", h);
            textProperty("status", "okay");
            textProperty("compatible", "whole,core");
            textProperty("isa", "w64");
            textProperty("mmu-type", "three,four");
            begin("interrupt-controller");
            numberProperty("#interrupt-cells", 1);
            property("interrupt-controller", 0);
            textProperty("compatible", "whole,lines");
            numberProperty("phandle", h + 1);
            finish();
            finish();
        }

        private void addDevices(int processors) {
            begin("soc");
            numberProperty("#address-cells", 2);
            numberProperty("#size-cells", 2);
            textProperty("compatible", "simple-bus");
            property("ranges", 0);
            begin("end@100000");
            textProperty("compatible", "whole,end");
            regionProperty(Windows.END_AT, 4096);
            finish();
            begin("timer@2000000");
            textProperty("compatible", "whole,timer");
            linesProperty(processors, 3, 7);
            regionProperty(Windows.TIMER_AT, 65536);
            finish();
            begin("interrupt-controller@c000000");
            numberProperty("#interrupt-cells", 1);
            property("interrupt-controller", 0);
            textProperty("compatible", "whole,controller");
            linesProperty(processors, 11, 9);
            regionProperty(Windows.CONTROLLER_AT, 4194304);
            numberProperty("sources", 31);
            numberProperty("phandle", processors + 1);
            finish();
            begin("serial@10000000");
            textProperty("compatible", "whole,serial");
            regionProperty(Windows.SERIAL_AT, 256);
            numberProperty("interrupts", 10);
            numberProperty("interrupt-parent", processors + 1);
            finish();
            begin("block@10001000");
            textProperty("compatible", "whole,block");
            regionProperty(Windows.DISK_AT, 4096);
            numberProperty("interrupts", 1);
            numberProperty("interrupt-parent", processors + 1);
            finish();
            finish();
        }

        private void linesProperty(int processors, int one, int other) {
            property("interrupts-extended", 16 * processors);
            for (int h = 0; h < processors; h++) {
                addNumber(h + 1);
                addNumber(one);
                addNumber(h + 1);
                addNumber(other);
            }
        }
    }
}
