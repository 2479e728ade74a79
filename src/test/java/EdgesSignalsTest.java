/** Part 7: each sentence that names a boundary case, with what it asks for. */
public final class EdgesSignalsTest {
    private static final long TIMER = Rig.TIMER, CONTROLLER = Rig.CONTROLLER, SERIAL = Rig.SERIAL;
    private static final long CLAIM = CONTROLLER + 2097156, ENABLES = CONTROLLER + 8192, WAITS = CONTROLLER + 4096;
    private static final long THRESHOLD = CONTROLLER + 2097152;

    /** What is read behind one write. */
    private static void keeps(int processors, long at, int n, long v, long want) {
        Rig rig = new Rig(processors);
        rig.poke(at, n, v);
        Rig.due("no trap", rig.csr(834), 0);
        Rig.due("at " + at + ", of " + v, rig.peek(at, n), want);
    }

    // THE TIMER.

    private static void softs() {
        keeps(1, TIMER, 4, -1, 1);
        keeps(1, TIMER, 4, 2, 0);
        keeps(1, TIMER + 4, 4, 1, 0);
        keeps(4, TIMER + 12, 4, 3, 1);
        keeps(4, TIMER + 16, 4, 1, 0);
        keeps(1, TIMER + 16380, 4, 1, 0);
        Rig rig = new Rig(4);
        for (int h = 0; h < 4; h++) {
            rig.poke(TIMER + 4 * h, 4, 1);
            for (int g = 0; g < 4; g++) {
                Rig.due("line 3 of " + g, rig.machine.control(g, 836), g <= h ? 8 : 0);
            }
        }
        rig.poke(TIMER + 8, 4, 0);
        Rig.due("line 3 is off again", rig.machine.control(2, 836), 0);
    }

    private static void compares() {
        Rig.due("all bits 1 at first", new Rig(1).peek(TIMER + 16384, 8), -1);
        Rig.due("the lower half", new Rig(1).peek(TIMER + 16384, 4), 0xFFFFFFFFL);
        Rig.due("that of processor 3", new Rig(4).peek(TIMER + 16384 + 24, 8), -1);
        Rig.due("there is no processor 4", new Rig(4).peek(TIMER + 16384 + 32, 8), 0);
        Rig.due("there is no processor 1", new Rig(1).peek(TIMER + 16384 + 8, 8), 0);
        Rig.due("just before", new Rig(1).peek(TIMER + 16376, 8), 0);
        keeps(1, TIMER + 16384, 8, Long.MIN_VALUE + 5, Long.MIN_VALUE + 5);
        keeps(1, TIMER + 16392, 8, 5, 0);
        Rig rig = new Rig(2);
        rig.poke(TIMER + 16392, 4, 0x7_11223344L);
        Rig.due("the lower half alone", rig.peek(TIMER + 16392, 8), 0xFFFFFFFF11223344L);
        rig.poke(TIMER + 16396, 4, 0x7_55667788L);
        Rig.due("both halves", rig.peek(TIMER + 16392, 8), 0x5566778811223344L);
        Rig.due("the upper half", rig.peek(TIMER + 16396, 4), 0x55667788L);
        Rig.due("another one's", rig.peek(TIMER + 16384, 8), -1);
    }

    /** TIME and COMPARE are set, and line 7 is looked at, within a tenth round. */
    private static void line7(String what, long time, long compare, boolean isOn) {
        Stage s = new Stage().with(1, TIMER + 16384).with(2, compare).with(3, TIMER + 49144).with(4, time)
                .run(Rig.store(8, 2, 1, 0));
        // A tenth round just behind the store of TIME would change it.
        while (s.control(2816) % 10 != 0) {
            s.words(s.machine.counter(0), Rig.NOP).more(1);
        }
        s.words(s.machine.counter(0), Rig.store(8, 4, 3, 0)).more(1);
        Rig.due(what + ": time", s.machine.time(), time);
        Rig.due(what, s.control(836), isOn ? 128 : 0);
    }

    private static void lineOfTime() {
        line7("as great", 5, 5, true);
        line7("less by 1", 4, 5, false);
        line7("more by 1", 6, 5, true);
        line7("0 and 0", 0, 0, true);
        line7("COMPARE without sign", 5, Long.MIN_VALUE, false);
        line7("TIME without sign", Long.MIN_VALUE, 5, true);
        line7("both without sign", Long.MAX_VALUE, Long.MIN_VALUE, false);
        line7("all bits 1", -1, -1, true);
        line7("all bits 1 but one", -2, -1, false);
    }

    private static void time() {
        Rig rig = new Rig(1);
        Rig.due("TIME at first", rig.machine.time(), 0);
        rig.poke(TIMER + 49144, 8, -1);
        long cycles = rig.csr(2816);
        Rig.due("33 rounds were made", cycles, 33);
        Rig.due("TIME is all bits 1", rig.machine.time(), -1);
        Rig.due("3073 shows it", rig.csr(3073), -1);
        rig.words(Rig.BASE, Rig.jal(0, 0));
        rig.machine.start();
        rig.machine.run(6);
        Rig.due("39 rounds", rig.machine.time(), -1);
        rig.machine.run(1);
        Rig.due("it wraps with the fortieth", rig.machine.time(), 0);
        Rig other = new Rig(1);
        other.poke(TIMER + 49148, 4, 0x7_00000009L);
        Rig.due("the upper half", other.machine.time() >>> 32, 9);
        other.poke(TIMER + 49144, 4, 0x3_FFFFFFF0L);
        Rig.due("the lower half", other.machine.time() & ~15L, 0x9_FFFFFFF0L);
        Rig.due("the upper half is read", other.peek(TIMER + 49148, 4), 9);
        Rig.due("just behind", other.peek(TIMER + 49152, 8), 0);
        Rig.due("just before", other.peek(TIMER + 49136, 8), 0);
    }

    // THE CONTROLLER.

    private static void numbers() {
        keeps(1, CONTROLLER + 4, 4, 15, 7);
        keeps(1, CONTROLLER + 4, 4, 8, 0);
        keeps(1, CONTROLLER + 124, 4, -1, 7);
        keeps(1, CONTROLLER, 4, 7, 0);
        keeps(1, CONTROLLER + 128, 4, 7, 0);
        keeps(1, WAITS, 4, -1, 0);
        keeps(1, ENABLES, 4, -1, 0xFFFFFFFEL);
        keeps(1, ENABLES, 4, 1, 0);
        keeps(1, ENABLES + 4, 4, -1, 0);
        keeps(1, ENABLES + 128, 4, -1, 0xFFFFFFFEL);
        keeps(1, ENABLES + 256, 4, -1, 0);
        keeps(4, ENABLES + 128 * 7, 4, -1, 0xFFFFFFFEL);
        keeps(4, ENABLES + 128 * 8, 4, -1, 0);
        keeps(1, THRESHOLD, 4, 15, 7);
        keeps(1, THRESHOLD, 4, 8, 0);
        keeps(1, THRESHOLD + 4096, 4, 3, 3);
        keeps(1, THRESHOLD + 8192, 4, 3, 0);
        keeps(4, THRESHOLD + 4096 * 7, 4, 3, 3);
        keeps(4, THRESHOLD + 4096 * 8, 4, 3, 0);
        keeps(1, THRESHOLD + 8, 4, 3, 0);
        keeps(1, CLAIM, 4, 5, 0);
        keeps(1, CLAIM + 8192, 4, 5, 0);
    }

    /** Sources 10 (EMPTIED) and, if it is wanted, 1 (a disk that broke) wait, with these priorities. */
    private static Rig waiting(int ten, int one) {
        Rig rig = new Rig(1);
        rig.poke(CONTROLLER + 40, 4, ten);
        rig.poke(CONTROLLER + 4, 4, Math.max(one, 0));
        rig.poke(SERIAL + 1, 1, 2);
        if (one >= 0) {
            rig.poke(Rig.BLOCK + 112, 4, 4);
            rig.poke(Rig.BLOCK + 68, 4, 1);
            rig.poke(Rig.BLOCK + 80, 4, 0);
        }
        Rig.due("they wait", rig.peek(WAITS, 4), one >= 0 ? 1026 : 1024);
        return rig;
    }

    private static void claims() {
        Rig rig = waiting(1, -1);
        Rig.due("not enabled", rig.peek(CLAIM, 4), 0);
        rig.poke(ENABLES, 4, 1 << 10);
        Rig.due("by another context", rig.peek(CLAIM + 4096, 4), 0);
        Rig.due("enabled", rig.peek(CLAIM, 4), 10);
        Rig.due("it waits no more", rig.peek(WAITS, 4), 0);
        Rig.due("it is served", rig.peek(CLAIM, 4), 0);
        rig = waiting(0, -1);
        rig.poke(ENABLES, 4, -1);
        Rig.due("a priority that is not above 0", rig.peek(CLAIM, 4), 0);
        Rig.due("it goes on to wait", rig.peek(WAITS, 4), 1024);
        rig = waiting(1, -1);
        rig.poke(ENABLES, 4, -1);
        rig.poke(THRESHOLD, 4, 7);
        Rig.due("whatever the threshold", rig.peek(CLAIM, 4), 10);
        rig = waiting(3, 3);
        rig.poke(ENABLES, 4, -1);
        Rig.due("of several the least source", rig.peek(CLAIM, 4), 1);
        Rig.due("then the other one", rig.peek(CLAIM, 4), 10);
        Rig.due("then none", rig.peek(CLAIM, 4), 0);
        rig = waiting(4, 3);
        rig.poke(ENABLES, 4, -1);
        Rig.due("the greatest priority", rig.peek(CLAIM, 4), 10);
        rig = waiting(4, 3);
        rig.poke(ENABLES, 4, 2);
        Rig.due("of those that are enabled", rig.peek(CLAIM, 4), 1);
        rig = waiting(1, 0);
        rig.poke(ENABLES, 4, -1);
        Rig.due("of those above 0", rig.peek(CLAIM, 4), 10);
        Rig.due("no breach", rig.machine.breaches(), 0);
    }

    private static Rig served() {
        Rig rig = waiting(1, -1);
        rig.poke(ENABLES, 4, 1 << 10);
        Rig.due("served", rig.peek(CLAIM, 4), 10);
        return rig;
    }

    private static void completes() {
        Rig rig = served();
        rig.poke(CLAIM, 4, 10);
        Rig.due("served no more, and its signal is on: it waits at once", rig.peek(WAITS, 4), 1024);
        rig = served();
        rig.poke(CLAIM + 4096, 4, 10);
        Rig.due("by a context that does not enable it", rig.peek(WAITS, 4), 0);
        rig.poke(ENABLES + 128, 4, 1 << 10);
        rig.poke(CLAIM + 4096, 4, 10);
        Rig.due("by another one that does", rig.peek(WAITS, 4), 1024);
        for (long s : new long[] {0, 9, 11, 32, 42, 10 + 65536, -1, 1L << 31 | 10}) {
            rig = served();
            rig.poke(ENABLES, 4, -1);
            rig.poke(CLAIM, 4, s);
            Rig.due("another number " + s, rig.peek(WAITS, 4), 0);
        }
        rig = served();
        rig.poke(SERIAL + 1, 1, 0);
        rig.poke(CLAIM, 4, 10);
        Rig.due("served no more, and its signal is off", rig.peek(WAITS, 4), 0);
        rig = waiting(1, -1);
        rig.poke(ENABLES, 4, 1 << 10);
        rig.poke(CLAIM, 4, 10);
        Rig.due("one that is not served", rig.peek(WAITS, 4), 1024);
        rig = waiting(1, -1);
        rig.poke(SERIAL + 1, 1, 0);
        Rig.due("it goes on to wait when the signal goes off", rig.peek(WAITS, 4), 1024);
        rig.poke(ENABLES, 4, 1 << 10);
        Rig.due("and is claimed", rig.peek(CLAIM, 4), 10);
        rig.poke(CLAIM, 4, 10);
        Rig.due("and then it is over", rig.peek(WAITS, 4), 0);
        // A signal that comes while it is served, and stays, waits only then.
        rig = served();
        rig.poke(SERIAL + 1, 1, 0);
        rig.poke(SERIAL + 1, 1, 2);
        Rig.due("while it is served it does not wait", rig.peek(WAITS, 4), 0);
    }

    /** Of two sources each is served, and completed, on its own. */
    private static void bothSources() {
        for (int first = 1; first <= 10; first += 9) {
            int other = 11 - first;
            Rig rig = waiting(2, 2);
            rig.poke(ENABLES, 4, -1);
            Rig.due("source 1", rig.peek(CLAIM, 4), 1);
            Rig.due("source 10", rig.peek(CLAIM, 4), 10);
            rig.poke(CLAIM, 4, first);
            Rig.due("the one that is completed waits again", rig.peek(WAITS, 4), 1 << first);
            Rig.due("the other one is served still", rig.peek(CLAIM, 4), first);
            Rig.due("none waits", rig.peek(WAITS, 4), 0);
            rig.poke(CLAIM, 4, other);
            Rig.due("the other one waits again", rig.peek(WAITS, 4), 1 << other);
            rig.poke(CLAIM, 4, first);
            Rig.due("both wait", rig.peek(WAITS, 4), 1026);
            rig = waiting(2, 2);
            rig.poke(ENABLES, 4, 1 << first);
            Rig.due("one is claimed", rig.peek(CLAIM, 4), first);
            Rig.due("the other one waits", rig.peek(WAITS, 4), 1 << other);
            rig.poke(CLAIM, 4, first);
            Rig.due("both wait again", rig.peek(WAITS, 4), 1026);
        }
        // One that was never served waits as soon as its signal is on, also when another one was completed.
        Rig rig = served();
        rig.poke(CLAIM, 4, 10);
        rig.poke(Rig.BLOCK + 112, 4, 4);
        rig.poke(Rig.BLOCK + 68, 4, 1);
        rig.poke(Rig.BLOCK + 80, 4, 0);
        Rig.due("source 1 behind it", rig.peek(WAITS, 4), 1026);
    }

    private static void lines() {
        for (int c = 0; c < 2; c++) {
            long on = c == 0 ? 2048 : 512;
            Rig rig = waiting(3, -1);
            rig.poke(ENABLES + 128 * c, 4, 1 << 10);
            Rig.due("above the threshold 0", rig.csr(836), on);
            rig.poke(THRESHOLD + 4096 * c, 4, 2);
            Rig.due("above the threshold 2", rig.csr(836), on);
            rig.poke(THRESHOLD + 4096 * c, 4, 3);
            Rig.due("not above the threshold 3", rig.csr(836), 0);
            rig.poke(CONTROLLER + 40, 4, 7);
            Rig.due("with the priority 7", rig.csr(836), on);
            rig.poke(THRESHOLD + 4096 * c, 4, 7);
            Rig.due("not above the threshold 7", rig.csr(836), 0);
            rig.poke(THRESHOLD + 4096 * c, 4, 0);
            rig.poke(CONTROLLER + 40, 4, 0);
            Rig.due("with the priority 0", rig.csr(836), 0);
            rig.poke(CONTROLLER + 40, 4, 1);
            rig.poke(ENABLES + 128 * c, 4, 0);
            Rig.due("not enabled", rig.csr(836), 0);
            rig.poke(ENABLES + 128 * c, 4, -1);
            Rig.due("with the priority 1", rig.csr(836), on);
            rig.peek(CLAIM + 4096 * c, 4);
            Rig.due("served", rig.csr(836), 0);
        }
        Rig rig = new Rig(4);
        rig.poke(CONTROLLER + 40, 4, 1);
        rig.poke(SERIAL + 1, 1, 2);
        rig.poke(ENABLES + 128 * 7, 4, 1 << 10);
        for (int h = 0; h < 4; h++) {
            Rig.due("context 7 is processor 3's", rig.machine.control(h, 836), h == 3 ? 512 : 0);
        }
    }

    // THE SERIAL LINE.

    private static Rig looped(int queue) {
        Rig rig = new Rig(1);
        rig.poke(SERIAL + 4, 1, 16);
        rig.poke(SERIAL + 2, 1, queue);
        return rig;
    }

    private static void send(Rig rig, int count) {
        for (int i = 1; i <= count; i++) {
            rig.poke(SERIAL, 1, i);
        }
    }

    private static void queues() {
        Rig rig = looped(0);
        send(rig, 1);
        Rig.due("room for 1", rig.peek(SERIAL + 5, 1), 97);
        send(rig, 1);
        Rig.due("no room: an overrun", rig.peek(SERIAL + 5, 1), 99);
        Rig.due("there is none any more then", rig.peek(SERIAL + 5, 1), 97);
        Rig.due("the first one", rig.peek(SERIAL, 1), 1);
        Rig.due("none", rig.peek(SERIAL, 1), 0);
        Rig.due("empty", rig.peek(SERIAL + 5, 1), 96);
        Rig.due("nothing was OUT", rig.machine.sent(), 0);
        rig = looped(1);
        send(rig, 16);
        Rig.due("room for 16", rig.peek(SERIAL + 5, 1), 97);
        send(rig, 1);
        Rig.due("not for 17", rig.peek(SERIAL + 5, 1), 99);
        for (int i = 1; i <= 16; i++) {
            Rig.due("in order", rig.peek(SERIAL, 1), i);
        }
        Rig.due("the seventeenth is lost", rig.peek(SERIAL, 1), 0);
        send(rig, 16);
        Rig.due("room again", rig.peek(SERIAL + 5, 1), 97);
    }

    /** "the queue bit becomes bit 0; IN loses all its bytes if that was another one, or bit 1 is 1". */
    private static void emptiedQueues() {
        queued("the same, 1", 1, 1, true);
        queued("the same, 0", 0, 0, true);
        queued("from 1 to 0", 1, 0, false);
        queued("from 0 to 1", 0, 1, false);
        queued("the same with bit 1", 1, 3, false);
        queued("the same, 0, with bit 1", 0, 2, false);
        queued("other bits do not count", 1, 0xFD, true);
        Rig rig = looped(0);
        send(rig, 2);
        rig.poke(SERIAL + 2, 1, 2);
        Rig.due("an overrun stays", rig.peek(SERIAL + 5, 1), 98);
        rig = new Rig(1);
        rig.poke(SERIAL + 1, 1, 2);
        rig.poke(SERIAL + 2, 1, 3);
        Rig.due("EMPTIED stays", rig.peek(SERIAL + 2, 1), 194);
    }

    private static void queued(String what, int before, int v, boolean isThere) {
        Rig rig = looped(before);
        send(rig, 1);
        rig.poke(SERIAL + 2, 1, v);
        Rig.due(what, rig.peek(SERIAL + 5, 1), isThere ? 97 : 96);
        Rig.due(what + ": the queue bit", rig.peek(SERIAL + 2, 1) & 192, (v & 1) * 192);
    }

    private static void registers() {
        keeps(1, SERIAL + 3, 1, -1, 255);
        keeps(1, SERIAL + 7, 1, -1, 255);
        keeps(1, SERIAL + 4, 1, -1, 31);
        keeps(1, SERIAL + 1, 1, -1, 15);
        keeps(1, SERIAL + 5, 1, -1, 96);
        keeps(1, SERIAL + 6, 1, -1, 176);
        keeps(1, SERIAL + 8, 1, -1, 0);
        keeps(1, SERIAL + 255, 1, -1, 0);
        Rig rig = new Rig(1);
        rig.poke(SERIAL + 1, 1, 5);
        rig.poke(SERIAL + 3, 1, 128);
        Rig.due("another register 1, at first 0", rig.peek(SERIAL + 1, 1), 0);
        rig.poke(SERIAL, 1, 200);
        rig.poke(SERIAL + 1, 1, 255);
        Rig.due("another register 0", rig.peek(SERIAL, 1), 200);
        Rig.due("another register 1", rig.peek(SERIAL + 1, 1), 255);
        Rig.due("nothing is sent by it", rig.machine.sent(), 0);
        Rig.due("and the line is not EMPTIED", rig.peek(SERIAL + 2, 1), 1);
        rig.poke(SERIAL + 3, 1, 127);
        Rig.due("register 1 itself", rig.peek(SERIAL + 1, 1), 5);
        Rig.due("register 0 itself", rig.peek(SERIAL, 1), 0);
        rig.poke(SERIAL + 3, 1, 255);
        Rig.due("the others are kept", rig.peek(SERIAL, 1) + 1000 * rig.peek(SERIAL + 1, 1), 255200);
        for (int v = 0; v < 16; v++) {
            Rig other = new Rig(1);
            other.poke(SERIAL + 4, 1, v);
            Rig.due("register 6 without bit 4", other.peek(SERIAL + 6, 1), 176);
            other.poke(SERIAL + 4, 1, v | 16);
            Rig.due("register 6 of " + v, other.peek(SERIAL + 6, 1),
                    (v & 2) * 8 + (v & 1) * 32 + (v & 4) * 16 + (v & 8) * 16);
        }
    }

    private static void emptied() {
        Rig rig = new Rig(1);
        Rig.due("no cause at first", rig.peek(SERIAL + 2, 1), 1);
        rig.poke(SERIAL + 1, 1, 2);
        Rig.due("bit 1 becomes 1", rig.peek(SERIAL + 2, 1), 2);
        Rig.due("when 2 is read it is EMPTIED no more", rig.peek(SERIAL + 2, 1), 1);
        rig.poke(SERIAL + 1, 1, 2);
        Rig.due("bit 1 was 1", rig.peek(SERIAL + 2, 1), 1);
        rig.poke(SERIAL, 1, 65);
        Rig.due("a byte was sent", rig.peek(SERIAL + 2, 1), 2);
        rig.poke(SERIAL + 1, 1, 0);
        rig.poke(SERIAL + 1, 1, 2);
        Rig.due("bit 1 becomes 1 again", rig.peek(SERIAL + 2, 1), 2);
        rig = new Rig(1);
        rig.poke(SERIAL, 1, 65);
        Rig.due("EMPTIED without bit 1", rig.peek(SERIAL + 2, 1), 1);
        rig.poke(SERIAL + 4, 1, 16);
        rig.poke(SERIAL + 1, 1, 3);
        rig.poke(SERIAL, 1, 65);
        Rig.due("4 comes before 2", rig.peek(SERIAL + 2, 1), 4);
        rig.peek(SERIAL, 1);
        Rig.due("it was still EMPTIED", rig.peek(SERIAL + 2, 1), 2);
    }

    private static void causes() {
        Rig rig = looped(0);
        rig.poke(SERIAL + 1, 1, 7);
        rig.peek(SERIAL + 2, 1);
        send(rig, 2);
        Rig.due("6 comes before 4", rig.peek(SERIAL + 2, 1), 6);
        Rig.due("6 stays", rig.peek(SERIAL + 2, 1), 6);
        rig.peek(SERIAL + 5, 1);
        Rig.due("then 4", rig.peek(SERIAL + 2, 1), 4);
        rig.poke(SERIAL + 1, 1, 6);
        Rig.due("4 without bit 0 is none: then 2", rig.peek(SERIAL + 2, 1), 2);
        Rig.due("then 1", rig.peek(SERIAL + 2, 1), 1);
        rig = looped(0);
        rig.poke(SERIAL + 1, 1, 8);
        send(rig, 2);
        Rig.due("bit 3 is no cause", rig.peek(SERIAL + 2, 1), 1);
        rig.poke(SERIAL + 1, 1, 1);
        Rig.due("an overrun without bit 2: 4", rig.peek(SERIAL + 2, 1), 4);
        rig = looped(1);
        Rig.due("192 with the queue bit", rig.peek(SERIAL + 2, 1), 193);
        // The signal of source 10 is on when the cause is not 1.
        rig = looped(0);
        rig.poke(SERIAL + 1, 1, 4);
        send(rig, 1);
        Rig.due("no cause, no signal", rig.peek(WAITS, 4), 0);
        send(rig, 1);
        Rig.due("6: the signal", rig.peek(WAITS, 4), 1024);
    }

    /** Every register 1, with IN empty or not, with an overrun or not, EMPTIED or not. */
    private static void allCauses() {
        for (int enabled = 0; enabled < 16; enabled++) {
            for (int state = 0; state < 8; state++) {
                boolean isIn = (state & 1) != 0, isOverrun = (state & 2) != 0, isEmptied = (state & 4) != 0;
                Rig rig = looped(0);
                send(rig, isOverrun ? 2 : 1);
                if (!isIn) {
                    rig.peek(SERIAL, 1);
                }
                // Bit 1 goes on and is read, so that it is not EMPTIED; bit 0 alone would give 4.
                rig.poke(SERIAL + 1, 1, 2);
                Rig.due("EMPTIED", rig.peek(SERIAL + 2, 1), 2);
                rig.poke(SERIAL + 1, 1, enabled);
                if (isEmptied) {
                    rig.poke(SERIAL + 4, 1, 0);
                    rig.poke(SERIAL, 1, 65);
                }
                int want = (enabled & 4) != 0 && isOverrun ? 6 : (enabled & 1) != 0 && isIn ? 4
                        : (enabled & 2) != 0 && isEmptied ? 2 : 1;
                String what = "register 1 " + enabled + ", state " + state;
                Rig.due(what + ": read", rig.peek(SERIAL + 1, 1), enabled);
                Rig.due(what + ": cause", rig.peek(SERIAL + 2, 1), want);
                Rig.due(what + ": cause again", rig.peek(SERIAL + 2, 1), want == 2 ? 1 : want);
            }
        }
    }

    /** From every register 1 to every other one: EMPTIED just when bit 1 becomes 1 and was 0. */
    private static void becomes() {
        for (int before = 0; before < 16; before++) {
            Rig rig = new Rig(1);
            for (int then = 0; then < 16; then++) {
                rig.poke(SERIAL + 1, 1, 2);
                rig.peek(SERIAL + 2, 1);
                rig.poke(SERIAL + 1, 1, before);
                // It became 1 and is read; or it is 0, and was not EMPTIED since.
                rig.peek(SERIAL + 2, 1);
                rig.poke(SERIAL + 1, 1, then);
                boolean isEmptied = (then & 2) != 0 && (before & 2) == 0;
                Rig.due("from " + before + " to " + then, rig.peek(SERIAL + 2, 1), isEmptied ? 2 : 1);
                rig.poke(SERIAL + 1, 1, 0);
            }
        }
    }

    /** A byte of INPUT that comes turns the signal on with its round. */
    private static void signalOfInput() {
        Stage s = new Stage().with(1, SERIAL).with(2, 1).with(3, CONTROLLER).with(4, ENABLES).with(5, 1 << 10);
        s.run(Rig.store(1, 2, 1, 1), Rig.store(4, 2, 3, 40), Rig.store(4, 5, 4, 0), Rig.jal(0, 0));
        Rig.due("off", s.control(836), 0);
        s.rig.feed(new byte[] {65});
        s.machine.load(BoardMachine.INPUT, 0);
        Rig.due("load() alone does not turn it on", s.control(836), 0);
        s.more(1);
        Rig.due("on", s.control(836), 2048);
    }

    /** "NONE when there is none, or it is not among the latest 4,096". */
    private static void outs() {
        Rig rig = new Rig(1);
        rig.words(Rig.BASE, Rig.lui(1, 0x10000), Rig.store(1, 2, 1, 0), Rig.addi(2, 2, 1), Rig.jal(0, -8));
        rig.machine.start();
        Rig.due("none yet", rig.machine.out(0), -1);
        rig.machine.run(2);
        Rig.due("one", rig.machine.sent(), 1);
        Rig.due("it is 0", rig.machine.out(0), 0);
        Rig.due("no second", rig.machine.out(1), -1);
        Rig.due("none before", rig.machine.out(-1), -1);
        rig.machine.run(3 * 1000);
        rig.machine.run(3 * 3095);
        Rig.due("4,096", rig.machine.sent(), 4096);
        Rig.due("the first is among the latest", rig.machine.out(0), 0);
        Rig.due("the last one", rig.machine.out(4095), 255);
        rig.machine.run(3);
        Rig.due("the first is not any more", rig.machine.out(0), -1);
        Rig.due("the second is", rig.machine.out(1), 1);
        Rig.due("the last one", rig.machine.out(4096), 0);
        Rig.due("none behind it", rig.machine.out(4097), -1);
        Rig.due("far ones", rig.machine.out(4096 + (1L << 32)) + rig.machine.out(Long.MIN_VALUE), -2);
    }

    public static void main(String[] args) {
        softs();
        compares();
        lineOfTime();
        time();
        numbers();
        claims();
        completes();
        bothSources();
        lines();
        queues();
        emptiedQueues();
        registers();
        emptied();
        causes();
        allCauses();
        becomes();
        signalOfInput();
        outs();
        Rig.finish("EdgesSignalsTest");
    }
}
