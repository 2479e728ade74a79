import java.lang.reflect.Field;

/**
 * breaches(): a right machine has none, so its state is bent here, by reflection, to what never may be, and each bend
 * must be counted. How the state is held is free: a class that holds it otherwise is not bent.
 */
public final class BreachTest {
    private static Object get(Object of, String name) throws Exception {
        Field field = of.getClass().getDeclaredField(name);
        field.setAccessible(true);
        return field.get(of);
    }

    private static void set(Object of, String name, Object value) throws Exception {
        Field field = of.getClass().getDeclaredField(name);
        field.setAccessible(true);
        field.set(of, value);
    }

    /** Whether the state is held as it is bent here. */
    private static boolean isKnown() {
        Rig rig = new Rig(1);
        try {
            get(core(rig), "registers");
            get(core(rig), "counter");
            get(get(core(rig), "controls"), "held");
            get(get(core(rig), "controls"), "mode");
            get(get(rig.machine, "memory"), "heldSize");
            get(get(get(rig.machine, "windows"), "controller"), "waiting");
            get(get(get(rig.machine, "windows"), "controller"), "served");
        } catch (Exception e) {
            System.out.println("BreachTest: the state is held otherwise and is not bent: " + e);
            return false;
        }
        return true;
    }

    private static Object core(Rig rig) throws Exception {
        return ((Object[]) get(rig.machine, "cores"))[0];
    }

    private static void due(String what, Rig rig, long want) {
        Rig.due(what, rig.machine.breaches(), want);
    }

    private static void steps() throws Exception {
        Rig rig = new Rig(1);
        rig.exec(new long[] {}, Rig.NOP, Rig.NOP);
        due("nothing", rig, 0);
        rig.exec(new long[] {}, Rig.NOP);
        rig.words(Rig.BASE + 132, Rig.NOP, Rig.NOP);
        ((long[]) get(core(rig), "registers"))[0] = 9;
        rig.machine.run(1);
        due("register 0", rig, 1);
        ((long[]) get(core(rig), "registers"))[0] = 0;
        rig.machine.run(1);
        due("no more", rig, 1);
        rig.exec(new long[] {}, Rig.NOP);
        set(core(rig), "counter", Rig.BASE + 1);
        rig.bytes(Rig.BASE + 1, (byte) 19, (byte) 0, (byte) 0, (byte) 0);
        rig.machine.run(1);
        due("an odd counter", rig, 2);
        rig.exec(new long[] {}, Rig.NOP);
        rig.words(Rig.BASE + 132, Rig.NOP, Rig.NOP);
        Object controls = get(core(rig), "controls");
        ((long[]) get(controls, "held"))[768] = 2 << 11;
        rig.machine.run(1);
        due("MPP 2", rig, 3);
        rig.exec(new long[] {0x1F, -1L}, Rig.csrrw(0, 928, 1), Rig.csrrw(0, 944, 2));
        rig.words(Rig.BASE + 136, Rig.NOP, Rig.NOP);
        set(get(core(rig), "controls"), "mode", 2);
        rig.machine.run(1);
        due("mode 2", rig, 4);
        rig.machine.start();
        due("start keeps them", rig, 4);
    }

    /** Stores of the user that are let through are no breach, and those that are not store nothing. */
    private static void stores() {
        Rig rig = new Rig(1);
        int[] words = {Rig.csrrw(0, 928, 1), Rig.csrrw(0, 944, 2), Rig.csrrw(0, 768, 3), Rig.store(4, 5, 4, 0),
            Rig.amo(0, 8, 6, 4, 5), Rig.amo(2, 8, 6, 4, 0), Rig.amo(3, 8, 6, 4, 5)};
        for (int config : new int[] {0, 0x18, 0x19, 0x1B, 0x1F}) {
            rig.longs(Rig.DATA + 0x200, 0);
            rig.exec(new long[] {config, -1L, 1 << 17, Rig.DATA + 0x200, 7}, words);
            due("a store with the config " + config, rig, 0);
            Rig.due("stored", rig.machine.word(Rig.DATA + 0x200), (config & 2) != 0 ? 7 : 0);
        }
    }

    private static void conditional() throws Exception {
        Rig rig = new Rig(1);
        rig.exec(new long[] {Rig.DATA, 5}, Rig.amo(2, 8, 3, 1, 0), Rig.store(1, 2, 1, 7));
        rig.words(Rig.BASE + 136, Rig.amo(3, 8, 3, 1, 2));
        ((int[]) get(get(rig.machine, "memory"), "heldSize"))[0] = 8;
        rig.machine.run(1);
        Rig.due("it succeeds", rig.x(3), 0);
        due("a conditional store that should have failed", rig, 1);
    }

    private static void claims() throws Exception {
        Rig rig = new Rig(1);
        rig.poke(Rig.CONTROLLER + 40, 4, 1);
        rig.poke(Rig.CONTROLLER + 8192, 4, 1 << 10);
        Object controller = get(get(rig.machine, "windows"), "controller");
        set(controller, "waiting", 1 << 10);
        set(controller, "served", 1 << 10);
        Rig.due("claimed", rig.peek(Rig.CONTROLLER + 2097156, 4), 10);
        due("a source that was claimed while it was served", rig, 1);
    }

    public static void main(String[] args) throws Exception {
        stores();
        if (isKnown()) {
            steps();
            conditional();
            claims();
        }
        Rig.finish("BreachTest");
    }
}
