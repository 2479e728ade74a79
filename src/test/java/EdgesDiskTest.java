import java.util.Arrays;

/** Part 8: each sentence that names a boundary case, with what it asks for. */
public final class EdgesDiskTest {
    private static final long BEHIND = Rig.BASE + 4194304, AREA = Rig.BASE + 0x20000;
    private static final long BLOCKS = AREA, OFFERS = AREA + 0x400, ANSWERS = AREA + 0x800, HEAD = AREA + 0xC00;
    private static final long DATA = AREA + 0x10000, RESULT = AREA + 0xE00;
    private static final int NEXT = 1, OPEN = 2;
    private static final int READ = 0, WRITE = 1, FLUSH = 4, NAME = 8;

    /** A machine with a queue; blocks, offers and requests are laid by hand. */
    private static final class Board {
        final Rig rig;
        final BoardMachine machine;

        Board() {
            this(16);
        }

        Board(int size) {
            this(size, BLOCKS, OFFERS, ANSWERS);
        }

        Board(int size, long blocks, long offers, long answers) {
            this(new Rig(1), size, blocks, offers, answers);
        }

        Board(Rig rig) {
            this(rig, 16, BLOCKS, OFFERS, ANSWERS);
        }

        private Board(Rig rig, int size, long blocks, long offers, long answers) {
            this.rig = rig;
            machine = rig.machine;
            set(56, size);
            place(128, blocks);
            place(144, offers);
            place(160, answers);
            set(68, 1);
            set(112, 15);
            put(RESULT, 1, 0x77);
        }

        private void place(int offset, long v) {
            set(offset, (int) v);
            set(offset + 4, (int) (v >>> 32));
        }

        void set(int offset, int v) {
            rig.poke(Rig.BLOCK + offset, 4, v);
        }

        long get(int offset) {
            return rig.peek(Rig.BLOCK + offset, 4);
        }

        void put(long at, int n, long v) {
            byte[] bytes = new byte[n];
            for (int i = 0; i < n; i++) {
                bytes[i] = (byte) (v >>> 8 * i);
            }
            rig.bytes(at, bytes);
        }

        long at(long place, int n) {
            long v = 0;
            for (int i = n - 1; i >= 0; i--) {
                v = v << 8 | machine.sum(place + i, place + i + 1);
            }
            return v;
        }

        Board block(int k, long address, long length, int marks, int next) {
            rig.longs(BLOCKS + 16L * k, address, length | (long) marks << 32 | (long) next << 48);
            return this;
        }

        Board head(long kind, long sector) {
            rig.longs(HEAD, kind, sector);
            return this;
        }

        Board offers(int marks, int count, int... numbers) {
            put(OFFERS, 2, marks);
            put(OFFERS + 2, 2, count);
            for (int i = 0; i < numbers.length; i++) {
                put(OFFERS + 4 + 2 * i, 2, numbers[i]);
            }
            return this;
        }

        /** One request: the head, one block of data (closed or open), and one byte for the result. */
        Board request(long kind, long sector, long length, boolean isOpen) {
            head(kind, sector);
            block(0, HEAD, 16, NEXT, 1);
            block(1, DATA, length, NEXT | (isOpen ? OPEN : 0), 2);
            block(2, RESULT, 1, OPEN, 0);
            return offers(0, 1, 0);
        }

        /** FLUSH with one block of data that is told: where, and how long. */
        Board requestOf(long[] data, boolean isOpen) {
            return request(FLUSH, 0, 0, isOpen).block(1, data[0], data[1], NEXT | (isOpen ? OPEN : 0), 2);
        }

        /** One request of the head and one open block of so many bytes, the last of them for the result. */
        Board shortRequest(long kind, long sector, long length) {
            head(kind, sector);
            block(0, HEAD, 16, NEXT, 1);
            block(1, DATA, length, OPEN, 0);
            return offers(0, 1, 0);
        }

        Board work() {
            set(80, 0);
            return this;
        }

        void done(String what, int result, long written) {
            Rig.due(what + ": result", at(RESULT, 1), result);
            answered(what, 1, written);
        }

        void answered(String what, int count, long written) {
            Rig.due(what + ": count", at(ANSWERS + 2, 2), count);
            Rig.due(what + ": answer", at(ANSWERS + 4 + 8 * ((count - 1) % 16), 4), 0);
            Rig.due(what + ": written", at(ANSWERS + 8 + 8 * ((count - 1) % 16), 4), written);
            Rig.due(what + ": causes", get(96), 1);
            Rig.due(what + ": state", get(112), 15);
        }

        void broken(String what) {
            Rig.due(what + ": causes", get(96), 2);
            Rig.due(what + ": state", get(112), 79);
            Rig.due(what + ": no answer", machine.word(ANSWERS) | machine.word(ANSWERS + 8), 0);
            Rig.due(what + ": no result", at(RESULT, 1), 0x77);
            Rig.due(what + ": nothing written", machine.changed(), 0);
        }
    }

    // REGISTERS.

    private static void reading() {
        Board b = new Board();
        long[][] want = {{0, 1953655158}, {4, 2}, {8, 2}, {16, 512}, {20, 0}, {48, 0}, {52, 16}, {56, 0}, {68, 1}, {80, 0},
            {96, 0}, {100, 0}, {112, 15}, {128, 0}, {164, 0}, {252, 0}, {256, 2048}, {260, 0}, {504, 0}, {508, 0}};
        for (long[] w : want) {
            Rig.due("register " + w[0], b.get((int) w[0]), w[1]);
        }
        b.set(20, 1);
        Rig.due("offered for 1", b.get(16), 1);
        for (int v : new int[] {2, -1, 1 << 31}) {
            b.set(20, v);
            Rig.due("offered for " + v, b.get(16), 0);
        }
        b.set(20, 0);
        Rig.due("offered for 0", b.get(16), 512);
        for (int v : new int[] {1, -1, 65536}) {
            b.set(48, v);
            Rig.due("52 of another queue", b.get(52), 0);
            Rig.due("68 of another queue", b.get(68), 0);
        }
        b.set(48, 0);
        Rig.due("52 of the queue", b.get(52), 16);
        Rig.due("68 of the queue", b.get(68), 1);
    }

    /** "What is written to 56, 68 and 128 to 164 is lost when the word of 48 is not 0, and, but for 68, when ... ready". */
    private static void lost() {
        Board b = new Board();
        b.set(48, 1);
        b.set(68, 0);
        b.set(48, 0);
        Rig.due("68 with another queue", b.get(68), 1);
        b.set(68, 0);
        Rig.due("68 when it is ready", b.get(68), 0);
        b.set(68, 2);
        Rig.due("68 by its bit 0", b.get(68), 0);
        b.set(68, 3);
        Rig.due("68 by its bit 0", b.get(68), 1);
        // With another queue, also when this one is not ready.
        for (int offset : new int[] {56, 128, 132, 144, 148, 160, 164}) {
            b = new Board();
            b.set(68, 0);
            b.set(48, 1);
            b.set(offset, 1);
            b.set(48, 0);
            b.set(68, 1);
            b.request(FLUSH, 0, 0, true).work();
            b.done(offset + " with another queue, not ready", 0, 1);
        }
        // Whatever is written to another register than 80, the device does not work.
        for (int offset = 0; offset < 516; offset += 4) {
            for (int v = 0; v < 2; v++) {
                if (offset != 80 && offset != 112) {
                    b = new Board().request(FLUSH, 0, 0, true);
                    b.set(48, v);
                    b.set(offset, 0);
                    Rig.due("nothing by " + offset, b.at(RESULT, 1) + b.at(ANSWERS + 2, 2), 0x77);
                }
            }
        }
        for (int how = 0; how < 3; how++) {
            for (int offset : new int[] {56, 128, 132, 144, 148, 160, 164}) {
                b = new Board();
                b.set(48, how == 0 ? 1 : 0);
                b.set(68, how == 2 ? 0 : 1);
                b.set(offset, 1);
                b.set(48, 0);
                b.set(68, 1);
                b.request(FLUSH, 0, 0, true).work();
                // In the third way it is not lost: a size of 1 has no room, and the places are wrong.
                String what = offset + (how == 0 ? " with another queue" : how == 1 ? " when ready" : " when not ready");
                Rig.due(what, b.get(112), how == 2 ? 79 : 15);
            }
        }
    }

    /** "56: the SIZE of the queue, if it is 1, 2, 4, 8 or 16, else it is lost". */
    private static void sizes() {
        for (int v : new int[] {1, 2, 4, 8, 16, 0, 3, 5, 15, 17, 32, 65536, -1, 1 << 31}) {
            boolean isSize = v == 1 || v == 2 || v == 4 || v == 8 || v == 16;
            int size = isSize ? v : 4;
            // The last block that there is can be the second of a request; one more cannot.
            for (int more = 0; more < 2; more++) {
                Board b = new Board(4);
                b.set(68, 0);
                b.set(56, v);
                b.set(68, 1);
                int second = size - 1 + more;
                b.head(FLUSH, 0).block(0, HEAD, 16, NEXT, second).offers(0, 1, 0);
                if (second > 0) {
                    b.block(second, RESULT, 1, OPEN, 0);
                }
                b.work();
                if (more == 0 && size > 1) {
                    b.done("size " + v, 0, 1);
                } else {
                    b.broken("size " + v + ", beyond it");
                }
            }
        }
        Board b = new Board();
        b.set(112, 0);
        Rig.due("the size is 16 at first", b.get(52), 16);
        // At first, and behind a reset, it is 16 without a word on it: block 15 is there, block 16 is not.
        for (int way = 0; way < 6; way++) {
            b = new Board(0);
            if (way >= 3) {
                b = new Board(4);
                b.set(112, 0);
                b.place(128, BLOCKS);
                b.place(144, OFFERS);
                b.place(160, ANSWERS);
                b.set(68, 1);
                b.set(112, 15);
            }
            int second = way % 3 == 0 ? 15 : way % 3 == 1 ? 16 : 1;
            b.head(FLUSH, 0).block(0, HEAD, 16, NEXT, second).block(second, RESULT, 1, OPEN, 0);
            b.offers(0, way % 3 == 2 ? 17 : 1, 0).work();
            if (way % 3 == 0) {
                b.done("block 15 of a queue of no told size", 0, 1);
            } else {
                b.broken("beyond a queue of no told size, in the way " + way);
            }
        }
    }

    private static void states() {
        Board b = new Board();
        b.set(112, 0x1FF);
        Rig.due("the lowest eight bits", b.get(112), 255);
        b.set(112, 15);
        Rig.due("bit 6, if it had that", b.get(112), 79);
        b.set(112, 256);
        Rig.due("0, too, with bit 6", b.get(112), 64);
        Rig.due("nothing else changes", b.get(68), 1);
        b.set(112, 0);
        Rig.due("all as at first", b.get(112) + b.get(68), 0);
        b = new Board();
        b.set(112, 256);
        Rig.due("0 without bit 6", b.get(112), 0);
        Rig.due("nothing else changes", b.get(68), 1);
        b = new Board();
        b.request(FLUSH, 0, 0, true).work();
        b.set(100, 2);
        Rig.due("causes lose other bits", b.get(96), 1);
        b.set(100, 0);
        Rig.due("causes lose none", b.get(96), 1);
        b.set(96, 0);
        Rig.due("96 is not written", b.get(96), 1);
        b.set(112, 256);
        Rig.due("causes stay with another word", b.get(96), 1);
        b.set(100, -1);
        Rig.due("causes lose all", b.get(96), 0);
    }

    /** "112: if the word is 0, all registers, the queue, and what the device knows of it (its counts) are as at first". */
    private static void reset() {
        Board b = new Board(4);
        b.set(20, 1);
        b.request(FLUSH, 0, 0, true).work();
        b.set(48, 5);
        b.set(112, 0);
        Rig.due("word 20", b.get(16), 512);
        Rig.due("word 48", b.get(52), 16);
        Rig.due("ready", b.get(68), 0);
        Rig.due("causes", b.get(96), 0);
        Rig.due("state", b.get(112), 0);
        // The queue is where it was again, of 16: block 15 is one, and the count begins at 0.
        b.place(128, BLOCKS);
        b.place(144, OFFERS);
        b.place(160, ANSWERS);
        b.set(68, 1);
        b.set(112, 15);
        b.rig.longs(ANSWERS, 0, 0, 0);
        b.head(FLUSH, 0).block(0, HEAD, 16, NEXT, 15).block(15, RESULT, 1, OPEN, 0).offers(0, 1, 0).work();
        b.done("behind a reset", 0, 1);
        // Its places were 0.
        b = new Board();
        b.set(112, 0);
        b.set(68, 1);
        b.set(112, 15);
        b.request(FLUSH, 0, 0, true).work();
        b.broken("places are 0 behind a reset");
        // Each one of them: the two others are told anew.
        long[] places = {BLOCKS, OFFERS, ANSWERS};
        for (int left = 0; left < 4; left++) {
            b = new Board();
            b.set(112, 0);
            for (int i = 0; i < 3; i++) {
                if (i != left) {
                    b.place(128 + 16 * i, places[i]);
                }
            }
            b.set(68, 1);
            b.set(112, 15);
            b.request(FLUSH, 0, 0, true).work();
            if (left < 3) {
                b.broken("place " + left + " is 0 behind a reset");
            } else {
                b.done("all places are told anew", 0, 1);
            }
        }
        // Their upper halves, too: the lower ones alone are told anew.
        b = new Board(16, -1, -1, -1);
        b.set(112, 0);
        for (int i = 0; i < 3; i++) {
            b.set(128 + 16 * i, (int) places[i]);
        }
        b.set(68, 1);
        b.set(112, 15);
        b.request(FLUSH, 0, 0, true).work();
        b.done("the upper halves are 0 behind a reset", 0, 1);
    }

    /** "the lower, and the upper, 32 bits of where its BLOCKS are": each half alone, in any order, over any other. */
    private static void halves() {
        long[] places = {BLOCKS, OFFERS, ANSWERS};
        for (int way = 0; way < 4; way++) {
            Board b = new Board(16, way == 3 ? 0 : -1, way == 3 ? 0 : -1, way == 3 ? 0 : -1);
            b.set(68, 0);
            for (int i = 0; i < 3; i++) {
                int lower = 128 + 16 * i;
                b.set(way == 0 ? lower : lower + 4, way == 0 ? (int) places[i] : 0);
                b.set(way == 0 ? lower + 4 : lower, way == 0 ? 0 : (int) places[i]);
                // One half that is wrong spoils it, and does not touch the other one.
                if (way == 2) {
                    b.set(lower + 4, 1);
                }
            }
            b.set(68, 1);
            b.request(FLUSH, 0, 0, true).work();
            if (way == 2) {
                b.broken("an upper half that is 1");
                b = new Board(16, BLOCKS | 1L << 32, OFFERS | 1L << 63, ANSWERS | 1L << 47);
                b.set(68, 0);
                for (int i = 0; i < 3; i++) {
                    b.set(132 + 16 * i, 0);
                }
                b.set(68, 1);
                b.request(FLUSH, 0, 0, true).work();
            }
            b.done("halves in the way " + way, 0, 1);
        }
        // One place is told anew while another one is elsewhere, and then is told anew itself.
        for (int i = 0; i < 3; i++) {
            for (int j = 0; j < 3; j++) {
                for (int half = 0; half < 2; half++) {
                    Board b = new Board();
                    b.set(68, 0);
                    b.set(128 + 16 * i + 4 * half, 7);
                    b.set(128 + 16 * j + 4 - 4 * half, half == 0 ? 0 : (int) places[j]);
                    b.set(128 + 16 * i + 4 * half, half == 0 ? (int) places[i] : 0);
                    b.set(68, 1);
                    b.request(FLUSH, 0, 0, true).work();
                    b.done("place " + j + " while " + i + " is elsewhere", 0, 1);
                }
            }
        }
        for (int bit = 32; bit < 64; bit++) {
            for (int i = 0; i < 3; i++) {
                long far = 1L << bit;
                Board b = new Board(16, i == 0 ? BLOCKS | far : BLOCKS, i == 1 ? OFFERS | far : OFFERS,
                        i == 2 ? ANSWERS | far : ANSWERS);
                b.request(FLUSH, 0, 0, true).work();
                b.broken("bit " + bit + " of place " + i);
            }
        }
    }

    /** "(What the device knows of the queue stays when it is made not ready, and ready again.)" */
    private static void notReady() {
        Board b = new Board();
        b.request(FLUSH, 0, 0, true).work();
        b.set(68, 0);
        b.set(68, 1);
        b.work();
        b.answered("no new one", 1, 1);
        b.offers(0, 2, 0, 0).work();
        b.answered("a new one", 2, 1);
    }

    // TO WORK.

    private static void nothingHappens() {
        for (int state : new int[] {0x100, 11, 0xBB, 0x44, 0xFF}) {
            Board b = new Board();
            b.set(112, state);
            b.request(FLUSH, 0, 0, true).work();
            Rig.due("the state " + state, b.at(RESULT, 1) + b.get(96), 0x77);
        }
        Board b = new Board();
        b.set(112, 4);
        b.request(FLUSH, 0, 0, true).work();
        Rig.due("bit 2 alone", b.at(RESULT, 1), 0);
        b = new Board();
        b.set(68, 0);
        b.request(FLUSH, 0, 0, true).work();
        Rig.due("not ready", b.at(RESULT, 1) + b.get(96), 0x77);
        b = new Board();
        b.request(FLUSH, 0, 0, true).set(80, 1);
        Rig.due("80 with 1", b.at(RESULT, 1) + b.get(96), 0x77);
        b.set(80, -1);
        b.set(80, 65536);
        Rig.due("80 with others", b.at(RESULT, 1) + b.get(96), 0x77);
        b.set(80, 0);
        Rig.due("80 with 0", b.at(RESULT, 1), 0);
        b = new Board();
        b.request(FLUSH, 0, 0, true).offers(0, 0, 0).work();
        Rig.due("the count up to which it has come", b.at(RESULT, 1) + b.get(96) + b.get(112), 0x77 + 15);
        b = new Board();
        b.request(FLUSH, 0, 0, true);
        b.set(48, 1);
        b.work();
        Rig.due("whatever the word of 48", b.at(RESULT, 1), 0);
    }

    /** "If it is ahead of that by more than n, the device BREAKS." */
    private static void ahead() {
        for (int n = 2; n <= 16; n *= 2) {
            Board b = new Board(n);
            b.head(FLUSH, 0).block(0, HEAD, 16, NEXT, 1).block(1, RESULT, 1, OPEN, 0);
            b.offers(0, n, new int[n]).work();
            Rig.due("ahead by n", b.at(ANSWERS + 2, 2), n);
            Rig.due("state", b.get(112), 15);
            b = new Board(n);
            b.head(FLUSH, 0).block(0, HEAD, 16, NEXT, 1).block(1, RESULT, 1, OPEN, 0);
            b.offers(0, n + 1, new int[n]).work();
            b.broken("ahead by n and 1");
        }
        Board b = new Board();
        b.request(FLUSH, 0, 0, true).offers(0, 65535, 0).work();
        b.broken("behind by 1");
    }

    /** "Counts go round at 65536": as many requests, by a program that offers 16 at a time. */
    private static void countsGoRound() {
        Board b = new Board();
        b.head(FLUSH, 0).block(0, HEAD, 16, NEXT, 1).block(1, RESULT, 1, OPEN, 0).offers(1, 0, new int[16]);
        b.rig.words(Rig.BASE, Rig.lui(1, 0x10001), Rig.auipc(2, 0x20), Rig.addi(2, 2, 0x400 - 4), Rig.addi(3, 3, 16),
                Rig.store(2, 3, 2, 2), Rig.store(4, 0, 1, 80), Rig.jal(0, -12));
        b.machine.start();
        b.machine.run(3);
        b.machine.run(8000);
        b.machine.run(4 * 4095 - 8000);
        Rig.due("65520", b.at(ANSWERS + 2, 2), 65520);
        b.machine.run(4);
        Rig.due("65536 is 0", b.at(ANSWERS + 2, 2), 0);
        b.machine.run(4);
        Rig.due("and on", b.at(ANSWERS + 2, 2), 16);
        Rig.due("the state", b.get(112), 15);
        Rig.due("nothing is told by causes", b.get(96), 0);
    }

    /** "the number at the place of the latter modulo n is taken", and answers are put likewise. */
    private static void modulo() {
        Board b = new Board(2);
        b.head(FLUSH, 0).block(0, HEAD, 16, NEXT, 1).block(1, RESULT, 1, OPEN, 0);
        b.offers(0, 2, 0, 0).work();
        b.rig.longs(ANSWERS + 4, 0x5555555555555555L, 0x5555555555555555L, 0x5555555555555555L);
        b.offers(0, 3, 0, 9).work();
        Rig.due("the third one by place 0", b.at(ANSWERS + 2, 2), 3);
        Rig.due("its answer at place 0", b.at(ANSWERS + 4, 8), 1L << 32);
        Rig.due("not at place 1", b.at(ANSWERS + 12, 8), 0x5555555555555555L);
        Rig.due("the state", b.get(112), 15);
        b.offers(0, 4, 0, 9).work();
        Rig.due("the fourth one by place 1 is no block", b.get(112), 79);
        Rig.due("both causes", b.get(96), 3);
    }

    /** "causes get bit 0 if something was answered and bit 0 of the marks was 0 when they were read last". */
    private static void quietly() {
        int[] marks = {0, 1, 2, 3, 0xFFFE, 0xFFFF};
        for (int m : marks) {
            Board b = new Board();
            b.request(FLUSH, 0, 0, true).offers(m, 1, 0).work();
            Rig.due("the marks " + m, b.get(96), 1 - (m & 1));
            Rig.due("it is answered", b.at(ANSWERS + 2, 2), 1);
        }
        Board b = new Board();
        b.request(FLUSH, 0, 0, true).offers(0, 2, 0, 16).work();
        Rig.due("one answered, and then it broke", b.get(96), 3);
        Rig.due("the one is answered", b.at(ANSWERS + 2, 2), 1);
        b = new Board();
        b.request(FLUSH, 0, 0, true).offers(1, 2, 0, 16).work();
        Rig.due("the same with the mark", b.get(96), 2);
        // The result is put over the marks: what was read last counts.
        b = new Board();
        b.request(2, 0, 0, true).block(2, OFFERS, 1, OPEN, 0).offers(1, 1, 0).work();
        Rig.due("the mark is gone when it is read last", b.get(96), 1);
        b = new Board();
        b.request(READ, 4096, 512, true).block(2, OFFERS, 1, OPEN, 0).offers(0, 1, 0).work();
        Rig.due("the mark came before it is read last", b.get(96), 0);
    }

    // "Whenever a byte that has to be read or written is not in memory ...".

    private static void notInMemory() {
        // The last bytes of memory: of what is read, all must be there, and what is not read, need not.
        Board last = new Board(16, BLOCKS, BEHIND - 4, ANSWERS);
        last.request(FLUSH, 0, 0, true).work();
        Rig.due("offers of just marks and a count, which is 0", last.get(112) + last.get(96), 15);
        last = new Board(16, BLOCKS, BEHIND - 3, ANSWERS);
        last.request(FLUSH, 0, 0, true).work();
        last.broken("offers whose count is there but for its last byte");
        last = new Board(16, BLOCKS, BEHIND - 5, ANSWERS);
        last.request(FLUSH, 0, 0, true).put(BEHIND - 5, 5, 1L << 16);
        last.work().broken("offers whose number is there but for its last byte");
        last = new Board(16, BLOCKS, BEHIND - 6, ANSWERS);
        last.request(FLUSH, 0, 0, true).put(BEHIND - 6, 6, 1L << 16);
        last.work().done("offers whose number is in the last bytes", 0, 1);
        // The same, with the first byte of memory 0: it does not come behind the last one.
        for (int off = 3; off <= 5; off += 2) {
            last = new Board(16, BLOCKS, BEHIND - off, ANSWERS);
            last.request(FLUSH, 0, 0, true).put(BEHIND - off, off, off == 5 ? 1L << 16 : 0);
            last.rig.exec(new long[] {Rig.BASE, Rig.BLOCK + 80}, Rig.store(1, 0, 1, 0), Rig.store(4, 0, 2, 0));
            last.broken("offers " + off + " bytes before the end, and 0 at the beginning");
        }
        for (int more = 0; more < 2; more++) {
            last = new Board(16, BEHIND - 32 + more, OFFERS, ANSWERS);
            last.request(FLUSH, 0, 0, true).put(BEHIND - 32 + more, 8, HEAD);
            last.put(BEHIND - 24 + more, 8, 16 | (long) NEXT << 32 | 1L << 48);
            last.put(BEHIND - 16 + more, 8, RESULT);
            last.put(BEHIND - 8 + more, 8 - more, 1 | (long) OPEN << 32);
            last.work();
            if (more == 0) {
                last.done("a block in the last sixteen bytes", 0, 1);
            } else {
                last.broken("a block that is there but for its last byte");
            }
        }
        for (long at : new long[] {0, BEHIND, BEHIND - 3, Rig.BASE - 1, Rig.BASE - 4, -4, 1L << 32 | OFFERS}) {
            Board b = new Board(16, BLOCKS, at, ANSWERS);
            b.rig.longs(BEHIND - 8, 1L << 48);
            b.request(FLUSH, 0, 0, true).work();
            b.broken("offers at " + at);
        }
        for (long at : new long[] {0, BEHIND, BEHIND - 15, Rig.BASE - 1, -16}) {
            Board b = new Board(16, at, OFFERS, ANSWERS);
            b.request(FLUSH, 0, 0, true).work();
            b.broken("blocks at " + at);
        }
        for (long at : new long[] {0, BEHIND, BEHIND - 11, BEHIND - 4, Rig.BASE - 3, Rig.BASE - 4, -8}) {
            Board b = new Board(16, BLOCKS, OFFERS, at);
            b.request(FLUSH, 0, 0, true).work();
            b.broken("answers at " + at);
        }
        Board b = new Board(16, BLOCKS, OFFERS, BEHIND - 12);
        b.request(FLUSH, 0, 0, true).work();
        Rig.due("answers in the last twelve bytes", b.at(BEHIND - 12, 4), 1 << 16);
        Rig.due("the answer", b.machine.word(BEHIND - 8), 1L << 32);
        b = new Board(16, BLOCKS, BEHIND - 6, ANSWERS);
        b.request(FLUSH, 0, 0, true);
        b.put(BEHIND - 6, 6, 1 << 16);
        b.work();
        b.done("offers in the last six bytes", 0, 1);
        b = new Board(16, BLOCKS, BEHIND - 5, ANSWERS);
        b.request(FLUSH, 0, 0, true);
        b.put(BEHIND - 5, 5, 1 << 16);
        b.work();
        b.broken("offers in the last five bytes");
    }

    private static void blocksNotInMemory() {
        long[][] wrong = {{0, 1}, {BEHIND, 1}, {BEHIND - 1, 2}, {Rig.BASE - 1, 2}, {-1, 1}, {DATA, 4194304}, {DATA, 0xFFFFFFFFL},
            {Long.MIN_VALUE + Rig.BASE, 8}, {1L << 32 | DATA, 8}};
        for (long[] w : wrong) {
            new Board().requestOf(w, true).work().broken("an open block at " + w[0] + ", " + w[1]);
            new Board().requestOf(w, false).work().broken("a closed block at " + w[0] + ", " + w[1]);
        }
        new Board().request(FLUSH, 0, 0, true).block(0, BEHIND - 15, 16, NEXT, 1).work().broken("the head, not all there");
        new Board().request(FLUSH, 0, 0, true).block(2, BEHIND, 1, OPEN, 0).work().broken("the result, not there");
        // "(A block with length 0 has no byte ...)"
        for (boolean isOpen : new boolean[] {true, false}) {
            Board b = new Board().request(FLUSH, 0, 0, isOpen);
            b.block(1, 0, 0, NEXT | (isOpen ? OPEN : 0), 2).work();
            b.done("a block without bytes, anywhere", 0, 1);
            b = new Board().request(FLUSH, 0, 0, isOpen);
            b.block(1, -1, 0, NEXT | (isOpen ? OPEN : 0), 2).work();
            b.done("a block without bytes, at the last address", 0, 1);
        }
        // "All bytes of all blocks have to be read or written": those that are too many for the kind, too.
        Board b = new Board().request(FLUSH, 0, 0, true);
        b.block(0, BEHIND - 16, 17, NEXT, 1).work();
        b.broken("a head of 17, of which 16 are there");
        b = new Board().request(FLUSH, 0, 0, true);
        b.rig.longs(BEHIND - 16, FLUSH, 0);
        b.block(0, BEHIND - 16, 16, NEXT, 1).work();
        b.done("a head in the last sixteen bytes", 0, 1);
    }

    private static void wrongBlocks() {
        Board b = new Board().request(FLUSH, 0, 0, true).offers(0, 1, 16);
        b.work().broken("the first block is n");
        new Board().request(FLUSH, 0, 0, true).offers(0, 1, 65535).work().broken("the first block is 65535");
        new Board().request(FLUSH, 0, 0, true).offers(0, 1, 256).work().broken("the first block is 256");
        new Board().request(FLUSH, 0, 0, true).block(1, DATA, 0, NEXT | OPEN, 258).work().broken("a next one is 258");
        new Board().request(FLUSH, 0, 0, true).block(1, DATA, 0, NEXT | OPEN, 16).work().broken("a next one is n");
        new Board().request(FLUSH, 0, 0, true).block(2, RESULT, 1, OPEN, 65535).work().done("what is next without its mark", 0, 1);
        new Board().request(FLUSH, 0, 0, true).block(0, HEAD, 16, NEXT | 4, 1).work().broken("the mark 4 of the first");
        new Board().request(FLUSH, 0, 0, true).block(1, DATA, 0, NEXT | 4, 2).work().broken("the mark 4 of a closed one");
        new Board().request(FLUSH, 0, 0, true).block(2, RESULT, 1, OPEN | 4, 0).work().broken("the mark 4 of the last");
        new Board().request(FLUSH, 0, 0, true).block(1, DATA, 0, NEXT | OPEN | 0xFFF8, 2).block(0, HEAD, 16, NEXT | 0xFFF8, 1)
                .work().done("other marks are not looked at", 0, 1);
        new Board().request(FLUSH, 0, 0, true).block(2, RESULT, 1, NEXT | OPEN, 3).block(3, DATA, 1, 0, 0).work()
                .broken("a closed one behind an open one");
        new Board().request(FLUSH, 0, 0, true).block(1, DATA, 0, NEXT | OPEN, 2).block(2, DATA, 0, NEXT, 3)
                .block(3, RESULT, 1, OPEN, 0).work().broken("a closed one without bytes behind an open one without");
        new Board().request(FLUSH, 0, 0, true).block(0, HEAD, 16, NEXT | OPEN, 1).work().broken("the first one is open");
        new Board().request(FLUSH, 0, 0, true).block(0, HEAD, 15, NEXT, 1).work().broken("the first one is shorter than 16");
        new Board().request(FLUSH, 0, 0, true).block(0, HEAD, 0, NEXT, 1).work().broken("the first one is empty");
        new Board().request(FLUSH, 0, 0, true).block(0, HEAD, 17, NEXT, 1).work().done("the first one is longer", 0, 1);
        new Board().request(FLUSH, 0, 0, false).block(2, RESULT, 1, 0, 0).work().broken("the last one is closed");
        new Board().request(FLUSH, 0, 0, true).block(2, RESULT, 0, OPEN, 0).work().broken("the last one is empty");
        new Board().request(FLUSH, 0, 0, true).block(0, HEAD, 16, 0, 1).work().broken("there is but one");
        new Board().request(FLUSH, 0, 0, true).block(0, HEAD, 16, OPEN, 1).work().broken("there is but one, open");
    }

    /** "comes behind n others of its request". */
    private static void manyBlocks() {
        for (int n = 2; n <= 16; n *= 2) {
            Board b = new Board(n).head(FLUSH, 0).offers(0, 1, 0);
            b.block(0, HEAD, 16, NEXT, 1);
            for (int k = 1; k < n - 1; k++) {
                b.block(k, DATA, 1, NEXT | OPEN, k + 1);
            }
            b.block(n - 1, RESULT, 1, OPEN, 0).work();
            b.done("n blocks, of " + n, 0, 1);
            b = new Board(n).head(FLUSH, 0).offers(0, 1, 0);
            b.block(0, HEAD, 16, NEXT, 1);
            for (int k = 1; k < n; k++) {
                b.block(k, RESULT, 1, NEXT | OPEN, k + 1 < n ? k + 1 : n - 1);
            }
            b.work();
            b.broken("a round of blocks, of " + n);
        }
        new Board(1).head(FLUSH, 0).block(0, HEAD, 16, NEXT, 0).offers(0, 1, 0).work().broken("a round of one block");
    }

    /** Requests of as many blocks as there are, each kind with data in all of them. */
    private static void allBlocks() {
        for (int n = 2; n <= 16; n *= 2) {
            Board b = filled(n, 0, 2).head(READ, 0).block(0, HEAD, 16, NEXT, 1);
            for (int k = 1; k < n; k++) {
                long length = k < n - 1 ? k : 513 - (n - 2) * (n - 1) / 2;
                b.block(k, DATA + k * (k - 1) / 2, length, k < n - 1 ? NEXT | OPEN : OPEN, k + 1);
            }
            b.offers(0, 1, 0).work();
            b.answered("READ into all of " + n, 1, 513);
            checkMemory(b, "READ into all of " + n, Arrays.copyOf(pattern(512, 3), 512));
            Rig.due("its result", b.at(DATA + 512, 1), 0);
            b = filled(n, 0, 2).head(NAME, 0).block(0, HEAD, 16, NEXT, 1);
            for (int k = 1; k < n; k++) {
                b.block(k, DATA + 8 * k, 2, k < n - 1 ? NEXT | OPEN : OPEN, k + 1);
            }
            b.offers(0, 1, 0).work();
            b.answered("NAME into all of " + n, 1, Math.min(2 * (n - 1) - 1, 20) + 1);
            Rig.due("its first bytes", b.at(DATA + 8, 2), n == 2 ? 98 : 98 | 108 << 8);
            b = filled(n, 0, 2).head(WRITE, 7).block(0, HEAD, 16, NEXT, 1);
            b.rig.bytes(DATA, pattern(512, 60));
            for (int k = 1; k < n - 1; k++) {
                long length = k < n - 2 ? k : 512 - (n - 3) * (n - 2) / 2;
                b.block(k, DATA + k * (k - 1) / 2, length, NEXT, k + 1);
            }
            b.block(n - 1, RESULT, 1, OPEN, 0).offers(0, 1, 0).work();
            b.done("WRITE of all of " + n, 0, 1);
            for (int i = 0; i < 512; i++) {
                Rig.due("byte " + i, b.machine.disk(7 * 512 + i), n > 2 ? pattern(512, 60)[i] & 255 : 0);
            }
        }
    }

    // A REQUEST.

    private static void kinds() {
        for (long kind : new long[] {2, 3, 5, 7, 9, 10, 256, 1L << 31, 0xFFFFFFFFL, 1 << 16}) {
            new Board().request(kind, 0, 512, true).work().done("the kind " + kind, 2, 1);
        }
        new Board().request(FLUSH | 0x7L << 32, 0, 512, true).work().done("4 others do not count", 0, 1);
        new Board().request(FLUSH, -1, 7, false).work().done("FLUSH, whatever its data", 0, 1);
    }

    private static byte[] pattern(int n, int seed) {
        byte[] bytes = new byte[n];
        for (int i = 0; i < n; i++) {
            bytes[i] = (byte) (i * 7 + i / 256 + seed);
        }
        return bytes;
    }

    private static Board filled(int sector, int count) {
        return filled(16, sector, count);
    }

    private static Board filled(int size, int sector, int count) {
        Board b = new Board(size);
        b.rig.feed(pattern(512 * count, 3));
        b.machine.load(BoardMachine.SECTORS, sector);
        return b;
    }

    private static void read(String what, long sector, long length, int result) {
        Board b = filled(0, 70);
        b.rig.feed(pattern(512, 9));
        b.machine.load(BoardMachine.SECTORS, 2047);
        b.rig.bytes(DATA, pattern(40000, 50));
        b.request(READ, sector, length, true).work();
        b.done(what, result, result == 0 ? length + 1 : 1);
        byte[] want = pattern(40000, 50);
        if (result == 0 && length > 0) {
            System.arraycopy(sector == 2047 ? pattern(512, 9) : pattern(512 * 70, 3), (int) (sector == 2047 ? 0 : 512 * sector),
                    want, 0, (int) length);
        }
        checkMemory(b, what, want);
        Rig.due(what + ": nothing was changed", b.machine.changed(), 0);
    }

    private static void checkMemory(Board b, String what, byte[] want) {
        long sum = 0;
        for (byte v : want) {
            sum = sum * 31 + (v & 255);
        }
        Rig.due(what + ": memory", b.machine.sum(DATA, DATA + want.length), sum);
    }

    private static void reads() {
        read("one sector", 0, 512, 0);
        read("none", 0, 0, 0);
        read("none, beyond the disk", 2048, 0, 0);
        read("none, far beyond the disk", -1, 0, 0);
        read("511 bytes", 0, 511, 1);
        read("513 bytes", 0, 513, 1);
        read("1 byte", 0, 1, 1);
        for (int length = 64; length < 2048; length += 64) {
            read(length + " bytes", 0, length, length % 512 == 0 ? 0 : 1);
        }
        read("64 sectors", 3, 64 * 512, 0);
        read("65 sectors", 3, 65 * 512, 1);
        read("the last sector", 2047, 512, 0);
        read("the last one and one more", 2047, 1024, 1);
        read("behind the last one", 2048, 512, 1);
        read("the greatest number", -1, 512, 1);
        read("a number with its highest bit", Long.MIN_VALUE, 512, 1);
        read("a number that is 0 in its lowest bits", 1L << 32, 512, 1);
        read("a number that wraps when it is multiplied", 1L << 55, 512, 1);
    }

    private static void write(String what, long sector, long length, int result) {
        Board b = new Board();
        b.rig.bytes(DATA, pattern(40000, 50));
        b.request(WRITE, sector, length, false).work();
        b.done(what, result, 1);
        Rig.due(what + ": changed", b.machine.changed(), result == 0 ? length / 512 : 0);
        byte[] data = pattern(40000, 50);
        int from = result == 0 && length > 0 ? (int) sector * 512 : 0;
        for (int i = Math.max(0, from - 600); i < Math.min(1048576, from + 40000); i++) {
            boolean isIn = result == 0 && i >= from && i < from + length;
            if (b.machine.disk(i) != (isIn ? data[i - from] & 255 : 0)) {
                Rig.due(what + ": byte " + i, b.machine.disk(i), isIn ? data[i - from] & 255 : 0);
            }
        }
        checkMemory(b, what, data);
    }

    private static void writes() {
        write("one sector", 0, 512, 0);
        write("none", 0, 0, 0);
        write("none, beyond the disk", 2048, 0, 0);
        write("511 bytes", 0, 511, 1);
        for (int length = 64; length < 2048; length += 64) {
            write(length + " bytes", 0, length, length % 512 == 0 ? 0 : 1);
        }
        write("513 bytes", 0, 513, 1);
        write("64 sectors", 3, 64 * 512, 0);
        write("65 sectors", 3, 65 * 512, 1);
        write("the last sector", 2047, 512, 0);
        write("the last two", 2046, 1024, 0);
        write("the last one and one more", 2047, 1024, 1);
        write("behind the last one", 2048, 512, 1);
        write("the greatest number", -1, 512, 1);
        write("a number that is 0 in its lowest bits", 1L << 32, 512, 1);
    }

    /** Data in several blocks, which sectors do not end with; the last byte of the last one is not data. */
    private static void dataInParts() {
        Board b = filled(5, 2);
        b.head(READ, 5).block(0, HEAD, 16, NEXT, 4).block(4, DATA, 1, NEXT | OPEN, 3).block(3, DATA + 1, 0, NEXT | OPEN, 2)
                .block(2, DATA + 1, 1000, NEXT | OPEN, 1).block(1, DATA + 1001, 24, OPEN, 0).offers(0, 1, 0).work();
        b.answered("read in parts", 1, 1025);
        checkMemory(b, "read in parts", Arrays.copyOf(pattern(1024, 3), 1024));
        Rig.due("the result behind them", b.at(DATA + 1024, 1), 0);
        b = new Board();
        b.rig.bytes(DATA, pattern(600, 50));
        b.head(WRITE, 6).block(0, HEAD, 30, NEXT, 1).block(1, DATA, 500, NEXT, 2).block(2, DATA + 500, 12, NEXT, 3)
                .block(3, DATA + 0x1000, 5, NEXT | OPEN, 4).block(4, RESULT, 1, OPEN, 0).offers(0, 1, 0).work();
        b.done("written in parts", 0, 1);
        Rig.due("the first byte", b.machine.disk(6 * 512), 50);
        Rig.due("the last byte", b.machine.disk(6 * 512 + 511), pattern(600, 50)[511] & 255);
        Rig.due("open blocks are not written", b.at(DATA + 0x1000, 5), 0);
        // The last open block alone: 512 bytes are 511 of data.
        b = filled(5, 2);
        b.shortRequest(READ, 5, 512).work();
        b.answered("512 with the result", 1, 1);
        Rig.due("wrong", b.at(DATA + 511, 1), 1);
        b = filled(5, 2);
        b.shortRequest(READ, 5, 513).work();
        b.answered("513 with the result", 1, 513);
        Rig.due("done", b.at(DATA + 512, 1), 0);
        b = filled(5, 2);
        b.shortRequest(READ, 5, 1).work();
        b.answered("1 with the result", 1, 1);
        // What WRITE has in open blocks, and READ in closed ones, is no data of it.
        b = new Board().request(WRITE, 0, 511, true);
        b.work().done("WRITE of open blocks alone", 0, 1);
        b = filled(0, 1).request(READ, 0, 511, false);
        b.work().done("READ of closed blocks alone", 0, 1);
    }

    private static void names() {
        for (int length : new int[] {1, 2, 5, 6, 7, 20, 21, 22, 100}) {
            Board b = new Board();
            byte[] want = new byte[100];
            Arrays.fill(want, (byte) 0x77);
            b.rig.bytes(DATA, want);
            b.shortRequest(NAME, -1, length).work();
            int put = Math.min(20, length - 1);
            b.answered("a name of " + length, 1, put + 1);
            for (int i = 0; i < put; i++) {
                want[i] = (byte) (i < 5 ? "block".charAt(i) : 0);
            }
            want[length - 1] = 0;
            checkMemory(b, "a name of " + length, want);
        }
        Board b = new Board();
        b.head(NAME, 0).block(0, HEAD, 16, NEXT, 1).block(1, DATA, 3, NEXT | OPEN, 2).block(2, DATA + 8, 4, OPEN, 0)
                .offers(0, 1, 0).work();
        b.answered("a name in two blocks", 1, 7);
        Rig.due("its first part", b.at(DATA, 8), 0x6F6C62);
        Rig.due("its second part", b.at(DATA + 8, 8), 0x6B63);
    }

    /** "Bytes are read or written one behind the other, then the result, the answer, the count." */
    private static void order() {
        Board b = filled(0, 1);
        b.request(READ, 0, 512, true).block(2, DATA + 3, 1, OPEN, 0).work();
        Rig.due("the result over data", b.at(DATA + 3, 1), 0);
        Rig.due("the data beside it", b.at(DATA + 4, 1), pattern(512, 3)[4] & 255);
        b = filled(0, 1);
        b.request(READ, 0, 512, true).block(1, ANSWERS, 512, NEXT | OPEN, 2).work();
        Rig.due("the count over data", b.at(ANSWERS + 2, 2), 1);
        Rig.due("the answer over data", b.at(ANSWERS + 4, 8), 513L << 32);
        Rig.due("data before them", b.at(ANSWERS, 2), pattern(2, 3)[0] & 255 | (pattern(2, 3)[1] & 255) << 8);
        b = new Board().request(2, 0, 0, true).block(2, ANSWERS + 4, 1, OPEN, 0);
        b.work();
        Rig.due("the answer over the result", b.at(ANSWERS + 4, 8), 1L << 32);
        // All blocks are read before anything is written: a sector goes over them, and over the head.
        b = filled(0, 1);
        b.request(READ, 0, 512, true).block(1, BLOCKS, 512, NEXT | OPEN, 2).work();
        b.done("a sector over the blocks", 0, 513);
        b = filled(0, 1);
        b.request(READ, 0, 512, true).block(1, HEAD, 512, NEXT | OPEN, 2).block(2, RESULT + 0x1000, 1, OPEN, 0).work();
        b.answered("a sector over the head", 1, 513);
        // Bytes that two blocks share get those that come later.
        b = filled(0, 1);
        b.head(READ, 0).block(0, HEAD, 16, NEXT, 1).block(1, DATA, 256, NEXT | OPEN, 2).block(2, DATA + 1, 256, NEXT | OPEN, 3)
                .block(3, RESULT, 1, OPEN, 0).offers(0, 1, 0).work();
        Rig.due("the first byte", b.at(DATA, 1), 3);
        Rig.due("the second one", b.at(DATA + 1, 1), pattern(512, 3)[256] & 255);
    }

    /** The device has worked when the step is over: another processor sees it in the same round. */
    private static void withinTheRound() {
        for (int calling = 0; calling < 2; calling++) {
            Rig rig = new Rig(2);
            Board b = new Board(rig);
            b.request(FLUSH, 0, 0, true);
            rig.longs(Rig.DATA, Rig.BLOCK, RESULT);
            rig.words(Rig.BASE, Rig.auipc(31, 0x10), Rig.ld(1, 31, 0), Rig.ld(2, 31, 8), Rig.branch(calling == 0 ? 1 : 0, 10, 0, 8),
                    Rig.store(4, 0, 1, 80), Rig.i(3, 5, 4, 2, 0), Rig.NOP);
            // In round 5 one of them calls, the other one loads the result, which was 0x77.
            rig.machine.start();
            rig.machine.run(5);
            Rig.due("what the other one loads", rig.machine.register(1 - calling, 5), calling == 0 ? 0 : 0x77);
            rig.machine.run(1);
            Rig.due("what it loads itself then", rig.machine.register(calling, 5), 0);
        }
    }

    /** The signal of source 1, as long as causes are not 0. */
    private static void signal() {
        Board b = new Board();
        b.request(FLUSH, 0, 0, true).work();
        Rig.due("it waits", b.rig.peek(Rig.CONTROLLER + 4096, 4), 2);
        b.rig.poke(Rig.CONTROLLER + 4, 4, 1);
        b.rig.poke(Rig.CONTROLLER + 8192, 4, 2);
        Rig.due("claimed", b.rig.peek(Rig.CONTROLLER + 2097156, 4), 1);
        b.set(100, 2);
        b.rig.poke(Rig.CONTROLLER + 2097156, 4, 1);
        Rig.due("causes are not 0", b.rig.peek(Rig.CONTROLLER + 4096, 4), 2);
        b.rig.peek(Rig.CONTROLLER + 2097156, 4);
        b.set(100, 1);
        b.rig.poke(Rig.CONTROLLER + 2097156, 4, 1);
        Rig.due("causes are 0", b.rig.peek(Rig.CONTROLLER + 4096, 4), 0);
        b = new Board();
        b.request(FLUSH, 0, 0, true).offers(1, 1, 0).work();
        Rig.due("quietly", b.rig.peek(Rig.CONTROLLER + 4096, 4), 0);
        b = new Board();
        b.request(FLUSH, 0, 0, true).offers(0, 1, 16).work();
        b.rig.poke(Rig.CONTROLLER + 4, 4, 1);
        b.rig.poke(Rig.CONTROLLER + 8192, 4, 2);
        Rig.due("broken", b.rig.peek(Rig.CONTROLLER + 2097156, 4), 1);
        b.set(112, 0);
        b.rig.poke(Rig.CONTROLLER + 2097156, 4, 1);
        Rig.due("causes are 0 behind a reset", b.rig.peek(Rig.CONTROLLER + 4096, 4), 0);
    }

    public static void main(String[] args) {
        reading();
        lost();
        sizes();
        states();
        reset();
        halves();
        notReady();
        nothingHappens();
        ahead();
        countsGoRound();
        modulo();
        quietly();
        notInMemory();
        blocksNotInMemory();
        wrongBlocks();
        manyBlocks();
        allBlocks();
        kinds();
        reads();
        writes();
        dataInParts();
        names();
        order();
        withinTheRound();
        signal();
        Rig.finish("EdgesDiskTest");
    }
}
