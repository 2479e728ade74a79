import java.util.Arrays;
import java.util.Random;

/** Part 9: images that are loaded and images that are refused, and the tree. */
public final class ImageTest {
    private static final Random random = new Random(29);

    private static void put(byte[] image, int at, int n, long v) {
        for (int i = 0; i < n; i++) {
            image[at + i] = (byte) (v >>> 8 * i);
        }
    }

    /** An image of so many segments: each of 16 bytes in the file and 24 in memory, 4,096 apart. */
    private static byte[] image(int n) {
        byte[] image = new byte[64 + 56 * n + 16 * n];
        random.nextBytes(image);
        int[] begin = {127, 69, 76, 70, 2, 1, 1};
        for (int i = 0; i < begin.length; i++) {
            image[i] = (byte) begin[i];
        }
        put(image, 16, 2, 2);
        put(image, 18, 2, 243);
        put(image, 20, 4, 1);
        put(image, 24, 8, Rig.BASE + 0x1000);
        put(image, 32, 8, 64);
        put(image, 52, 2, 64);
        put(image, 54, 2, 56);
        put(image, 56, 2, n);
        for (int k = 0; k < n; k++) {
            segment(image, k, 1, 64 + 56 * n + 16 * k, Rig.BASE + 0x1000 + 4096 * k, 16, 24);
        }
        return image;
    }

    private static void segment(byte[] image, int k, long type, long o, long a, long f, long m) {
        int p = 64 + 56 * k;
        put(image, p, 4, type);
        put(image, p + 8, 8, o);
        put(image, p + 24, 8, a);
        put(image, p + 32, 8, f);
        put(image, p + 40, 8, m);
    }

    private static Rig filled() {
        Rig rig = new Rig(1);
        byte[] fill = new byte[60000];
        Arrays.fill(fill, (byte) 0x77);
        rig.bytes(Rig.BASE, fill);
        rig.bytes(Rig.BASE + 60000, fill);
        return rig;
    }

    private static final Rig used = filled();

    private static int load(byte[] image) {
        used.feed(image);
        long before = used.machine.sum(Rig.BASE, Rig.BASE + 65536);
        int answer = used.machine.load(BoardMachine.IMAGE, random.nextLong());
        if (answer != 0) {
            Rig.due("nothing is loaded", used.machine.sum(Rig.BASE, Rig.BASE + 65536), before);
        }
        boolean thrown = false;
        try {
            used.machine.end(1);
        } catch (IllegalArgumentException e) {
            thrown = true;
        }
        Rig.due("the tape is used up", thrown);
        return answer;
    }

    private static void refused(String what, byte[] image, int want) {
        long entry = entry();
        Rig.due(what, load(image), want);
        if (want != 0) {
            Rig.due(what + " leaves the entry", entry(), entry);
        }
    }

    private static long entry() {
        used.machine.start();
        return used.machine.counter(0);
    }

    private static void changed(String what, int at, int n, long v, int want) {
        byte[] image = image(3);
        put(image, at, n, v);
        refused(what + " " + v, image, want);
    }

    private static void refusals() {
        refused("a good one", image(1), 0);
        refused("a good one of sixteen", image(16), 0);
        refused("one of seventeen", image(17), 4);
        refused("nothing", new byte[0], 1);
        refused("63 bytes", Arrays.copyOf(image(1), 63), 1);
        refused("64 bytes of 0", new byte[64], 2);
        refused("64 bytes", Arrays.copyOf(image(1), 64), 4);
        for (int i = 0; i < 7; i++) {
            changed("byte " + i, i, 1, 3, 2);
        }
        changed("byte 7", 7, 1, 3, 0);
        changed("kind", 16, 2, 3, 3);
        changed("kind", 16, 2, 258, 3);
        changed("machine", 18, 2, 62, 3);
        changed("version", 20, 4, 0x10001, 3);
        changed("header's size", 52, 2, 65, 4);
        changed("segment header's size", 54, 2, 57, 4);
        changed("segments", 56, 2, 0, 4);
        changed("segments", 56, 2, 17, 4);
        int length = image(3).length;
        changed("table", 32, 8, length - 168 + 1, 4);
        changed("table", 32, 8, -56, 4);
        changed("table", 32, 8, Long.MIN_VALUE, 4);
        changed("table", 32, 8, Long.MAX_VALUE, 4);
        int p = 64 + 56;
        changed("offset", p + 8, 8, length - 16, 0);
        changed("offset", p + 8, 8, length - 15, 5);
        changed("offset", p + 8, 8, -1, 5);
        changed("offset", p + 8, 8, -16, 5);
        changed("file size", p + 32, 8, 25, 5);
        changed("file size", p + 32, 8, -1, 5);
        changed("memory size", p + 40, 8, 15, 5);
        changed("memory size", p + 40, 8, 16, 0);
        changed("memory size", p + 40, 8, -1, 6);
        changed("memory size", p + 40, 8, Long.MIN_VALUE, 6);
        changed("memory size", p + 40, 8, 4194304, 6);
        changed("memory size", p + 40, 8, 4096, 0);
        changed("memory size that reaches the next one", p + 40, 8, 4097, 7);
        changed("address", p + 24, 8, Rig.BASE - 1, 6);
        changed("address", p + 24, 8, Rig.BASE, 0);
        changed("address", p + 24, 8, 0, 6);
        changed("address", p + 24, 8, -8, 6);
        changed("address", p + 24, 8, Rig.BASE + 4194304 - 24, 0);
        changed("address", p + 24, 8, Rig.BASE + 4194304 - 23, 6);
        changed("address at the end of the first", p + 24, 8, Rig.BASE + 0x1000 + 24, 0);
        changed("address within the first", p + 24, 8, Rig.BASE + 0x1000 + 23, 7);
        changed("address before the first", p + 24, 8, Rig.BASE + 0x1000 - 24, 0);
        changed("address reaching the first", p + 24, 8, Rig.BASE + 0x1000 - 23, 7);
        changed("entry", 24, 8, Rig.BASE + 1, 8);
        changed("entry", 24, 8, Rig.BASE - 2, 8);
        changed("entry", 24, 8, Rig.BASE + 4194304, 8);
        changed("entry", 24, 8, 0, 8);
        changed("entry", 24, 8, Rig.BASE + 4194302, 0);
        changed("another type", p, 4, 2, 0);
        changed("another type", p, 4, 0x101, 0);
    }

    private static void order() {
        byte[] image = image(3);
        put(image, 24, 8, 1);
        segment(image, 2, 1, -1, 0, 0, 0);
        refused("5 of the third before 8", image, 5);
        segment(image, 1, 1, 64, 0, 8, 8);
        refused("6 of the second before 5 of the third", image, 6);
        segment(image, 0, 1, 64, 0, 9, 8);
        refused("5 of the first before 6 of the second", image, 5);
        put(image, 56, 2, 0);
        refused("4 before 5", image, 4);
        put(image, 16, 2, 0);
        refused("3 before 4", image, 3);
        image = image(3);
        segment(image, 1, 9, -1, -1, -1, 0);
        segment(image, 2, 9, -1, -1, -1, 0);
        refused("what is passed over", image, 0);
        image = image(3);
        segment(image, 1, 1, 64, Rig.BASE + 0x1008, 0, 0);
        refused("an empty one within another", image, 0);
        segment(image, 1, 1, 64, 5, 0, 0);
        refused("an empty one anywhere", image, 0);
        segment(image, 1, 1, image.length, 5, 0, 0);
        refused("an empty one at the end", image, 0);
        segment(image, 1, 1, image.length + 1, 5, 0, 0);
        refused("an empty one behind the end", image, 5);
        image = image(3);
        segment(image, 0, 1, 64, Rig.BASE + 0x2008, 0, 0);
        refused("another around an empty one", image, 0);
    }

    private static void loading() {
        byte[] image = image(4);
        segment(image, 2, 7, 0, 0, 0, 0);
        segment(image, 3, 1, 3, Rig.BASE + 0x4003, 5, 3000);
        byte[] fill = new byte[60000];
        Arrays.fill(fill, (byte) 0x77);
        used.bytes(Rig.BASE, fill);
        Rig.due("loaded", load(image), 0);
        for (int i = -8; i < 40; i++) {
            long want = i >= 0 && i < 16 ? image[64 + 224 + i] & 255 : i >= 16 && i < 24 ? 0 : 0x77;
            Rig.due("byte of the first " + i, used.machine.sum(Rig.BASE + 0x1000 + i, Rig.BASE + 0x1001 + i), want);
            Rig.due("byte of the third " + i, used.machine.sum(Rig.BASE + 0x3000 + i, Rig.BASE + 0x3001 + i), 0x77);
        }
        for (int i = -8; i < 3010; i++) {
            long want = i >= 0 && i < 5 ? image[3 + i] & 255 : i >= 5 && i < 3000 ? 0 : 0x77;
            Rig.due("byte of the fourth " + i, used.machine.sum(Rig.BASE + 0x4003 + i, Rig.BASE + 0x4004 + i), want);
        }
        Rig.due("entry", entry(), Rig.BASE + 0x1000);
        Rig.due("entry of a new machine", new BoardMachine(1).counter(0), Rig.BASE);
        Rig.due("all of memory", load(whole()), 0);
        Rig.due("the last byte", used.machine.sum(Rig.BASE + 4194303, Rig.BASE + 4194304), 0);
    }

    /** What follows the table looks like one more segment, and is none. */
    private static void behindTheTable() {
        byte[] image = Arrays.copyOf(image(2), 400);
        put(image, 64 + 112, 4, 1);
        put(image, 64 + 112 + 8, 8, 0);
        put(image, 64 + 112 + 24, 8, Rig.BASE + 0x6000);
        put(image, 64 + 112 + 32, 8, 8);
        put(image, 64 + 112 + 40, 8, 8);
        used.longs(Rig.BASE + 0x6000, 0x7777777777777777L);
        Rig.due("loaded", load(image), 0);
        Rig.due("what is none is not loaded", used.machine.word(Rig.BASE + 0x6000), 0x7777777777777777L);
    }

    private static byte[] whole() {
        byte[] image = image(1);
        segment(image, 0, 1, 64, Rig.BASE, 0, 4194304);
        return image;
    }

    private static void reservations() {
        Rig rig = new Rig(1);
        rig.words(Rig.BASE, Rig.auipc(1, 1), Rig.addi(1, 1, 16), Rig.amo(2, 8, 3, 1, 0), Rig.amo(3, 8, 3, 1, 0));
        rig.machine.start();
        rig.machine.run(3);
        rig.feed(image(1));
        rig.machine.load(BoardMachine.IMAGE, 0);
        rig.machine.run(1);
        Rig.due("the zeros of an image undo a reservation", rig.x(3), 1);
    }

    // The tree, read back by the rules of its bytes.

    private static long at;
    private static long names;
    private static BoardMachine machine;
    private static StringBuilder text;

    private static int number() {
        int v = number(at);
        at += 4;
        return v;
    }

    private static int number(long place) {
        return Integer.reverseBytes((int) machine.word(place));
    }

    private static String string(long place) {
        StringBuilder s = new StringBuilder();
        for (long i = place; (machine.word(i) & 255) != 0; i++) {
            s.append((char) (machine.word(i) & 255));
        }
        return s.toString();
    }

    private static void node(String indent) {
        String name = string(at);
        text.append(indent).append('{').append(name).append('\n');
        at += name.length() + 4 & -4;
        while (true) {
            int token = number();
            if (token == 2) {
                text.append(indent).append("}\n");
                return;
            }
            if (token == 1) {
                node(indent + " ");
                continue;
            }
            Rig.due("a property", token, 3);
            int length = number();
            text.append(indent).append(string(names + number())).append('=');
            for (int i = 0; i < length; i++) {
                text.append(' ').append(machine.word(at + i) & 255);
            }
            text.append('\n');
            for (int i = length; i % 4 != 0; i++) {
                Rig.due("filled up", machine.word(at + i) & 255, 0);
            }
            at += length + 3 & -4;
        }
    }

    private static String bytesOf(Object... values) {
        StringBuilder s = new StringBuilder();
        for (Object v : values) {
            if (v instanceof String) {
                for (char c : ((String) v).toCharArray()) {
                    s.append(' ').append((int) c);
                }
                s.append(" 0");
            } else {
                boolean wide = v instanceof Long;
                long n = ((Number) v).longValue();
                for (int shift = wide ? 56 : 24; shift >= 0; shift -= 8) {
                    s.append(' ').append(n >>> shift & 255);
                }
            }
        }
        return s.toString();
    }

    private static void open(String indent, String name) {
        text.append(indent).append('{').append(name).append('\n');
    }

    private static void property(String indent, String name, Object... values) {
        text.append(indent).append(name).append('=').append(bytesOf(values)).append('\n');
    }

    private static String expectedTree(int h) {
        text = new StringBuilder();
        open("", "");
        property("", "#address-cells", 2);
        property("", "#size-cells", 2);
        property("", "compatible", "whole,board");
        property("", "model", "board");
        open(" ", "chosen");
        property(" ", "stdout-path", "/soc/serial@10000000");
        text.append(" }\n");
        open(" ", "cpus");
        property(" ", "#address-cells", 1);
        property(" ", "#size-cells", 0);
        property(" ", "timebase-frequency", 10000000);
        Object[] timer = new Object[4 * h], outside = new Object[4 * h];
        for (int i = 0; i < h; i++) {
            open("  ", "cpu@" + i);
            property("  ", "device_type", "cpu");
            property("  ", "reg", i);
            property("  ", "status", "okay");
            property("  ", "compatible", "whole,core");
            property("  ", "isa", "w64");
            property("  ", "mmu-type", "three,four");
            open("   ", "interrupt-controller");
            property("   ", "#interrupt-cells", 1);
            property("   ", "interrupt-controller");
            property("   ", "compatible", "whole,lines");
            property("   ", "phandle", i + 1);
            text.append("   }\n  }\n");
            System.arraycopy(new Object[] {i + 1, 3, i + 1, 7}, 0, timer, 4 * i, 4);
            System.arraycopy(new Object[] {i + 1, 11, i + 1, 9}, 0, outside, 4 * i, 4);
        }
        text.append(" }\n");
        open(" ", "memory@80000000");
        property(" ", "device_type", "memory");
        property(" ", "reg", 2147483648L, 4194304L);
        text.append(" }\n");
        open(" ", "soc");
        property(" ", "#address-cells", 2);
        property(" ", "#size-cells", 2);
        property(" ", "compatible", "simple-bus");
        property(" ", "ranges");
        open("  ", "end@100000");
        property("  ", "compatible", "whole,end");
        property("  ", "reg", 1048576L, 4096L);
        text.append("  }\n");
        open("  ", "timer@2000000");
        property("  ", "compatible", "whole,timer");
        property("  ", "interrupts-extended", timer);
        property("  ", "reg", 33554432L, 65536L);
        text.append("  }\n");
        open("  ", "interrupt-controller@c000000");
        property("  ", "#interrupt-cells", 1);
        property("  ", "interrupt-controller");
        property("  ", "compatible", "whole,controller");
        property("  ", "interrupts-extended", outside);
        property("  ", "reg", 201326592L, 4194304L);
        property("  ", "sources", 31);
        property("  ", "phandle", h + 1);
        text.append("  }\n");
        open("  ", "serial@10000000");
        property("  ", "compatible", "whole,serial");
        property("  ", "reg", 268435456L, 256L);
        property("  ", "interrupts", 10);
        property("  ", "interrupt-parent", h + 1);
        text.append("  }\n");
        open("  ", "block@10001000");
        property("  ", "compatible", "whole,block");
        property("  ", "reg", 268439552L, 4096L);
        property("  ", "interrupts", 1);
        property("  ", "interrupt-parent", h + 1);
        text.append("  }\n }\n}\n");
        return text.toString();
    }

    private static void trees() {
        for (int h = 1; h <= 4; h++) {
            machine = new BoardMachine(h);
            long base = Rig.BASE + 4186112;
            Rig.due("laid down by a new object", number(base), 0xD00DFEED);
            Rig rig = new Rig(h);
            machine = rig.machine;
            byte[] fill = new byte[4000];
            Arrays.fill(fill, (byte) 0x55);
            rig.bytes(base - 100, fill);
            int size = machine.start();
            names = base + number(base + 12);
            Rig.due("bytes in all", number(base + 4), size);
            Rig.due("structure at", number(base + 8), 56);
            Rig.due("reserved at", number(base + 16), 40);
            Rig.due("version", number(base + 20), 17);
            Rig.due("old version", number(base + 24), 16);
            Rig.due("processor", number(base + 28), 0);
            Rig.due("names and structure", 56 + number(base + 32) + number(base + 36), size);
            Rig.due("names behind the structure", number(base + 12), 56 + number(base + 36));
            Rig.due("zeros", machine.word(base + 40) | machine.word(base + 48), 0);
            at = base + 56;
            Rig.due("begins", number(), 1);
            text = new StringBuilder();
            node("");
            String got = text.toString();
            String want = expectedTree(h);
            Rig.due("the tree of " + h + "\n" + got + "due is\n" + want, got.equals(want));
            Rig.due("last", number(), 9);
            Rig.due("end of the structure", at, names);
            Rig.due("behind the tree", machine.word(base + size), 0x5555555555555555L);
            Rig.due("before the tree", machine.word(base - 8), 0x5555555555555555L);
            String all = "#address-cells,#size-cells,compatible,model,stdout-path,timebase-frequency,device_type,reg,"
                    + "status,isa,mmu-type,#interrupt-cells,interrupt-controller,phandle,ranges,interrupts-extended,"
                    + "sources,interrupts,interrupt-parent";
            for (String name : all.split(",")) {
                Rig.due("name " + name, string(at).equals(name));
                at += name.length() + 1;
            }
            Rig.due("end of the names", at, base + size);
        }
    }

    public static void main(String[] args) {
        refusals();
        order();
        loading();
        behindTheTable();
        reservations();
        trees();
        Rig.finish("ImageTest");
    }
}
