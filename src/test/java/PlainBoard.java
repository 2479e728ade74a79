import java.util.ArrayDeque;

/** MEMORY, and parts 7 and 8, once more, as plainly as the document tells them: PlainMachine runs its processors on it. */
class PlainBoard {
    static final long BASE = 1L << 31, END = 1048576, TIMER = 33554432, CONTROLLER = 201326592, SERIAL = 268435456;
    static final long BLOCK = 268439552;
    static final int SIZE = 4194304;

    final int processors;
    final byte[] memory = new byte[SIZE];
    final byte[] sectors = new byte[1048576];
    final long[] heldAt;
    final int[] heldSize;
    boolean ended;
    int code;
    long time;
    int changed;
    final ArrayDeque<Integer> input = new ArrayDeque<>();
    final StringBuilder out = new StringBuilder();

    PlainBoard(int processors) {
        this.processors = processors;
        heldAt = new long[processors];
        heldSize = new int[processors];
        soft = new int[processors];
        compare = new long[processors];
        java.util.Arrays.fill(compare, -1L);
        enables = new int[2 * processors];
        threshold = new int[2 * processors];
    }

    // MEMORY.

    static boolean isThere(long at) {
        return at >= BASE && at < BASE + SIZE;
    }

    static boolean areThere(long at, long n) {
        return n == 0 || isThere(at) && n <= SIZE && isThere(at + n - 1);
    }

    long get(long at, int n) {
        long v = 0;
        for (int i = n - 1; i >= 0; i--) {
            v = v << 8 | memory[(int) (at + i - BASE)] & 255;
        }
        return v;
    }

    void put(long at, int n, long v) {
        for (int i = 0; i < n; i++) {
            memory[(int) (at + i - BASE)] = (byte) (v >>> 8 * i);
            for (int h = 0; h < processors; h++) {
                if (heldSize[h] != 0 && heldAt[h] / 8 == (at + i) / 8) {
                    heldSize[h] = 0;
                }
            }
        }
    }

    // The windows.

    private static boolean isIn(long at, long begin, long size) {
        return at >= begin && at < begin + size;
    }

    static boolean isWindow(long at) {
        return isIn(at, END, 4096) || isIn(at, TIMER, 65536) || isIn(at, CONTROLLER, 4194304) || isIn(at, SERIAL, 256)
                || isIn(at, BLOCK, 4096);
    }

    long read(long at, int n) {
        long v = 0;
        if (isIn(at, TIMER, 65536)) {
            v = readTimer(at - TIMER, n);
        } else if (isIn(at, CONTROLLER, 4194304) && n == 4) {
            v = readController(at - CONTROLLER);
        } else if (isIn(at, SERIAL, 256) && n == 1) {
            v = readSerial((int) (at - SERIAL));
        } else if (isIn(at, BLOCK, 4096) && n == 4) {
            v = readBlock((int) (at - BLOCK));
        }
        feel();
        return v;
    }

    void write(long at, int n, long v) {
        if (at == END && n == 4) {
            int lowest = (int) v & 65535;
            if (lowest == 21845 || lowest == 13107) {
                ended = true;
                code = lowest == 21845 ? 0 : (int) (v >>> 16 & 65535);
            }
        } else if (isIn(at, TIMER, 65536)) {
            writeTimer(at - TIMER, n, v);
        } else if (isIn(at, CONTROLLER, 4194304) && n == 4) {
            writeController(at - CONTROLLER, (int) v);
        } else if (isIn(at, SERIAL, 256) && n == 1) {
            writeSerial((int) (at - SERIAL), (int) v & 255);
        } else if (isIn(at, BLOCK, 4096) && n == 4) {
            writeBlock((int) (at - BLOCK), (int) v);
        }
        feel();
    }

    // The timer.

    private final int[] soft;
    private final long[] compare;

    private long readTimer(long offset, int n) {
        for (int h = 0; h < processors; h++) {
            if (offset == 4 * h && n == 4) {
                return soft[h];
            }
            if (offset / 8 == 2048 + h && n >= 4) {
                return half(compare[h], offset, n);
            }
        }
        return offset / 8 == 6143 && n >= 4 ? half(time, offset, n) : 0;
    }

    private static long half(long v, long offset, int n) {
        return n == 8 ? v : offset % 8 == 0 ? v & 0xFFFFFFFFL : v >>> 32;
    }

    private void writeTimer(long offset, int n, long v) {
        for (int h = 0; h < processors; h++) {
            if (offset == 4 * h && n == 4) {
                soft[h] = (int) v & 1;
            }
            if (offset / 8 == 2048 + h && n >= 4) {
                compare[h] = withHalf(compare[h], offset, n, v);
            }
        }
        if (offset / 8 == 6143 && n >= 4) {
            time = withHalf(time, offset, n, v);
        }
    }

    private static long withHalf(long before, long offset, int n, long v) {
        return n == 8 ? v : offset % 8 == 0 ? before >>> 32 << 32 | v & 0xFFFFFFFFL : before & 0xFFFFFFFFL | v << 32;
    }

    // The controller.

    private final boolean[] waits = new boolean[32], served = new boolean[32];
    private final int[] priority = new int[32];
    private final int[] enables, threshold;

    void feel() {
        boolean[] signal = new boolean[32];
        signal[1] = causes != 0;
        signal[10] = serialCause() != 1;
        for (int s = 1; s < 32; s++) {
            if (signal[s] && !waits[s] && !served[s]) {
                waits[s] = true;
            }
        }
    }

    private boolean enables(int c, int s) {
        return (enables[c] >>> s & 1) == 1;
    }

    private long readController(long offset) {
        for (int s = 1; s < 32; s++) {
            if (offset == 4 * s) {
                return priority[s];
            }
        }
        if (offset == 4096) {
            long v = 0;
            for (int s = 1; s < 32; s++) {
                v += waits[s] ? 1L << s : 0;
            }
            return v;
        }
        for (int c = 0; c < 2 * processors; c++) {
            if (offset == 8192 + 128 * c) {
                return enables[c] & 0xFFFFFFFFL;
            }
            if (offset == 2097152 + 4096 * c) {
                return threshold[c];
            }
            if (offset == 2097156 + 4096 * c) {
                return claim(c);
            }
        }
        return 0;
    }

    private int claim(int c) {
        int found = 0;
        for (int s = 31; s > 0; s--) {
            if (waits[s] && enables(c, s) && priority[s] > 0 && (found == 0 || priority[s] >= priority[found])) {
                found = s;
            }
        }
        if (found != 0) {
            waits[found] = false;
            served[found] = true;
        }
        return found;
    }

    private void writeController(long offset, int v) {
        for (int s = 1; s < 32; s++) {
            if (offset == 4 * s) {
                priority[s] = v & 7;
            }
        }
        for (int c = 0; c < 2 * processors; c++) {
            if (offset == 8192 + 128 * c) {
                enables[c] = v & ~1;
            } else if (offset == 2097152 + 4096 * c) {
                threshold[c] = v & 7;
            } else if (offset == 2097156 + 4096 * c && v >= 1 && v <= 31 && enables(c, v)) {
                served[v] = false;
            }
        }
    }

    /** The lines of a processor, as bits 3, 7, 9, 11. */
    long lines(int h) {
        long v = soft[h] == 1 ? 1 << 3 : 0;
        v |= Long.compareUnsigned(time, compare[h]) >= 0 ? 1 << 7 : 0;
        for (int s = 1; s < 32; s++) {
            v |= waits[s] && enables(2 * h, s) && priority[s] > threshold[2 * h] ? 1 << 11 : 0;
            v |= waits[s] && enables(2 * h + 1, s) && priority[s] > threshold[2 * h + 1] ? 1 << 9 : 0;
        }
        return v;
    }

    // The serial line.

    private final ArrayDeque<Integer> in = new ArrayDeque<>();
    private final int[] register = new int[8], behind = new int[2];
    private boolean hasQueue, isOverrun, isEmptied;

    private int room() {
        return hasQueue ? 16 : 1;
    }

    void inputComes() {
        if (!input.isEmpty() && in.size() < room()) {
            comes(input.poll());
            feel();
        }
    }

    private void comes(int v) {
        if (in.size() < room()) {
            in.add(v);
        } else {
            isOverrun = true;
        }
    }

    private int serialCause() {
        if ((register[1] & 4) != 0 && isOverrun) {
            return 6;
        } else if ((register[1] & 1) != 0 && !in.isEmpty()) {
            return 4;
        } else if ((register[1] & 2) != 0 && isEmptied) {
            return 2;
        }
        return 1;
    }

    private int readSerial(int r) {
        if (r < 2 && (register[3] & 128) != 0) {
            return behind[r];
        }
        int v = 0;
        switch (r) {
            case 0: return in.isEmpty() ? 0 : in.poll();
            case 1: case 3: case 4: case 7: return register[r];
            case 2:
                v = serialCause();
                isEmptied &= v != 2;
                return v + (hasQueue ? 192 : 0);
            case 5:
                v = 96 + (in.isEmpty() ? 0 : 1) + (isOverrun ? 2 : 0);
                isOverrun = false;
                return v;
            case 6:
                int[] weights = {32, 16, 64, 128};
                for (int i = 0; i < 4; i++) {
                    v += (register[4] >> i & 1) * weights[i];
                }
                return (register[4] & 16) == 0 ? 176 : v;
            default: return 0;
        }
    }

    private void writeSerial(int r, int v) {
        if (r < 2 && (register[3] & 128) != 0) {
            behind[r] = v;
            return;
        }
        switch (r) {
            case 0:
                if ((register[4] & 16) != 0) {
                    comes(v);
                } else {
                    out.append((char) v);
                }
                isEmptied = true;
                break;
            case 1:
                isEmptied |= (v & 2) != 0 && (register[1] & 2) == 0;
                register[1] = v & 15;
                break;
            case 2:
                if (hasQueue != ((v & 1) == 1) || (v & 2) != 0) {
                    in.clear();
                }
                hasQueue = (v & 1) == 1;
                break;
            case 3: case 7: register[r] = v; break;
            case 4: register[4] = v & 31; break;
            default: break;
        }
    }

    // The disk.

    private int offered, queue, size = 16, state, causes, come, answered;
    private boolean isReady;
    private final long[] places = new long[3];

    private long readBlock(int offset) {
        switch (offset) {
            case 0: return 1953655158;
            case 4: case 8: return 2;
            case 16: return offered == 0 ? 512 : offered == 1 ? 1 : 0;
            case 52: return queue == 0 ? 16 : 0;
            case 68: return queue == 0 && isReady ? 1 : 0;
            case 96: return causes & 0xFFFFFFFFL;
            case 112: return state;
            case 256: return 2048;
            default: return 0;
        }
    }

    private void writeBlock(int offset, int v) {
        boolean isTaken = queue == 0 && (offset == 68 || !isReady);
        for (int i = 0; i < 3; i++) {
            if (isTaken && offset == 128 + 16 * i) {
                places[i] = places[i] >>> 32 << 32 | v & 0xFFFFFFFFL;
            } else if (isTaken && offset == 132 + 16 * i) {
                places[i] = places[i] & 0xFFFFFFFFL | (long) v << 32;
            }
        }
        if (offset == 20) {
            offered = v;
        } else if (offset == 48) {
            queue = v;
        } else if (offset == 56 && isTaken && (v == 1 || v == 2 || v == 4 || v == 8 || v == 16)) {
            size = v;
        } else if (offset == 68 && isTaken) {
            isReady = (v & 1) == 1;
        } else if (offset == 80 && v == 0) {
            work();
        } else if (offset == 100) {
            causes &= ~v;
        } else if (offset == 112 && v != 0) {
            state = v & 255 | state & 64;
        } else if (offset == 112) {
            offered = queue = state = causes = come = answered = 0;
            size = 16;
            isReady = false;
            places[0] = places[1] = places[2] = 0;
        }
    }

    private static final class Broken extends RuntimeException {
        private static final long serialVersionUID = 1;
    }

    private static void need(boolean holds) {
        if (!holds) {
            throw new Broken();
        }
    }

    private void work() {
        if ((state & 4) == 0 || (state & 64) != 0 || !isReady) {
            return;
        }
        int done = 0;
        boolean isQuiet = false;
        try {
            while (true) {
                need(areThere(places[1], 4));
                isQuiet = (get(places[1], 2) & 1) == 1;
                int ahead = (int) get(places[1] + 2, 2) - come & 65535;
                if (ahead == 0 || done == 64) {
                    break;
                }
                need(ahead <= size);
                answerOne();
                done++;
            }
        } catch (Broken b) {
            state |= 64;
            causes |= 2;
        }
        causes |= done > 0 && !isQuiet ? 1 : 0;
    }

    private void answerOne() {
        long offer = places[1] + 4 + 2 * (come % size), answer = places[2] + 4 + 8 * (answered % size);
        need(areThere(offer, 2));
        int first = (int) get(offer, 2);
        long[] at = new long[size], length = new long[size];
        boolean[] isOpen = new boolean[size];
        int blocks = 0;
        int k = first;
        for (boolean isMore = true; isMore; blocks++) {
            need(k < size && blocks < size);
            long block = places[0] + 16L * k;
            need(areThere(block, 16));
            at[blocks] = get(block, 8);
            length[blocks] = get(block + 8, 4);
            int marks = (int) get(block + 12, 2);
            isOpen[blocks] = (marks & 2) != 0;
            need((marks & 4) == 0 && areThere(at[blocks], length[blocks]));
            need(blocks == 0 || isOpen[blocks] || !isOpen[blocks - 1]);
            isMore = (marks & 1) != 0;
            k = (int) get(block + 14, 2);
        }
        need(!isOpen[0] && length[0] >= 16 && isOpen[blocks - 1] && length[blocks - 1] > 0);
        need(areThere(answer, 8) && areThere(places[2] + 2, 2));
        int written = request(at, length, isOpen, blocks);
        put(answer, 4, first);
        put(answer + 4, 4, written);
        come = come + 1 & 65535;
        answered = answered + 1 & 65535;
        put(places[2] + 2, 2, answered);
    }

    private int request(long[] at, long[] length, boolean[] isOpen, int blocks) {
        long kind = get(at[0], 4), sector = get(at[0] + 8, 8), result = at[blocks - 1] + length[blocks - 1] - 1;
        // The places of the bytes of data, in order: those that the device reads, and those that it writes.
        long readable = 0, writable = -1;
        for (int i = 1; i < blocks; i++) {
            readable += isOpen[i] ? 0 : length[i];
            writable += isOpen[i] ? length[i] : 0;
        }
        long bytes = kind == 0 ? writable : readable;
        boolean areSectors = bytes % 512 == 0 && bytes / 512 <= 64
                && (bytes == 0 || sector >= 0 && sector < 2048 && sector + bytes / 512 <= 2048);
        int put = 0;
        if (kind == 0 && areSectors || kind == 8) {
            byte[] name = {98, 108, 111, 99, 107, 0, 0, 0, 0, 0, 0, 0, 0, 0, 0, 0, 0, 0, 0, 0};
            long most = kind == 0 ? writable : Math.min(writable, 20);
            for (int i = 1; i < blocks; i++) {
                for (long j = 0; isOpen[i] && j < length[i] && put < most; j++) {
                    put(at[i] + j, 1, kind == 8 ? name[put] : sectors[(int) (512 * sector) + put]);
                    put++;
                }
            }
        } else if (kind == 1 && areSectors) {
            int taken = 0;
            for (int i = 1; i < blocks; i++) {
                for (long j = 0; !isOpen[i] && j < length[i]; j++) {
                    sectors[(int) (512 * sector) + taken] = (byte) get(at[i] + j, 1);
                    taken++;
                }
            }
            changed += taken / 512;
        }
        put(result, 1, kind == 4 || kind == 8 || kind <= 1 && areSectors ? 0 : kind <= 1 ? 1 : 2);
        return put + 1;
    }
}
