import java.lang.management.ManagementFactory;
import java.lang.reflect.Constructor;
import java.lang.reflect.Field;
import java.lang.reflect.Method;
import java.lang.reflect.Modifier;
import java.nio.file.Files;
import java.nio.file.Path;
import java.util.Set;
import java.util.TreeSet;

/** What the language rules and the shared room ask of the class, as far as a test can see it. */
public final class RulesTest {
    private static final String[] FACE = {
        "int feed(int,int,int,int,int)", "void end(int)", "int load(int,long)", "int start()", "int run(int)", "int code()",
        "int processors()", "long counter(int)", "long register(int,int)", "long floating(int,int)",
        "long control(int,int)", "int mode(int)", "long word(long)", "long sum(long,long)", "int disk(int)",
        "long sent()", "int out(long)", "int waiting()", "int changed()", "long time()", "long breaches()"};

    private static final Set<String> IMPORTS = Set.of("import java.util.Arrays;", "import java.util.ArrayList;",
            "import java.util.List;", "import java.util.Iterator;", "import java.util.NoSuchElementException;");
    /** The bytes of all fields and elements that there is room for, and a share of them for each of 512 calls. */
    private static final long ROOM = 7300000L * 8, SHARE = ROOM / 512;

    private static String told(Method m) {
        StringBuilder s = new StringBuilder(m.getReturnType().getName()).append(' ').append(m.getName()).append('(');
        for (int i = 0; i < m.getParameterCount(); i++) {
            s.append(i > 0 ? "," : "").append(m.getParameterTypes()[i].getName());
        }
        return s.append(')').toString();
    }

    private static void face() {
        Set<String> due = new TreeSet<>(Set.of(FACE));
        Set<String> names = new TreeSet<>();
        Set<String> found = new TreeSet<>();
        for (Method m : BoardMachine.class.getDeclaredMethods()) {
            if (Modifier.isPublic(m.getModifiers())) {
                found.add(told(m));
                names.add(m.getName());
            } else {
                Rig.due(m.getName() + " is private", Modifier.isPrivate(m.getModifiers()));
            }
        }
        Rig.due("the face: " + found, found.equals(due));
        Rig.due("final", Modifier.isFinal(BoardMachine.class.getModifiers()));
        for (Constructor<?> c : BoardMachine.class.getDeclaredConstructors()) {
            Rig.due("constructor", Modifier.isPublic(c.getModifiers()) && c.getParameterCount() == 1);
        }
        int constants = 0;
        for (Field f : BoardMachine.class.getDeclaredFields()) {
            boolean isPublic = Modifier.isPublic(f.getModifiers());
            constants += isPublic ? 1 : 0;
            Rig.due(f.getName() + " is a constant or private", isPublic || Modifier.isPrivate(f.getModifiers()));
        }
        Rig.due("constants", constants, 5);
        int classes = 1;
        for (Class<?> c : BoardMachine.class.getDeclaredClasses()) {
            classes++;
            Rig.due(c.getName() + " is private or package-visible", !Modifier.isPublic(c.getModifiers())
                    && !Modifier.isProtected(c.getModifiers()));
            int fields = 0;
            for (Field f : c.getDeclaredFields()) {
                boolean isStatic = Modifier.isStatic(f.getModifiers());
                fields += isStatic ? 0 : 1;
                Rig.due("static " + f.getName() + " is final", !isStatic || Modifier.isFinal(f.getModifiers()));
            }
            Rig.due(c.getName() + " has few fields: " + fields, fields <= 24);
            for (Method m : c.getDeclaredMethods()) {
                Rig.due(c.getName() + "." + m.getName() + " bears no name of the face",
                        !Modifier.isPrivate(m.getModifiers()) || !names.contains(m.getName()));
                Rig.due(m.getName() + " takes few", m.getParameterCount() <= 7);
            }
        }
        Rig.due("few classes", classes <= 14);
    }

    private static void source() throws Exception {
        String text = Files.readString(Path.of("src/main/java/BoardMachine.java"));
        for (String word : new String[] {"::", "finally", "synchronized", "assert ", "Exact(", "System.out", "package ",
            "HashMap", "volatile", "getMessage", "static {"}) {
            Rig.due("no " + word, !text.contains(word));
        }
        int begin = 0;
        String[] lines = text.split("\n");
        for (int i = 0; i < lines.length; i++) {
            if (lines[i].startsWith("import ")) {
                Rig.due(lines[i], IMPORTS.contains(lines[i]));
            }
            if (lines[i].contains("->")) {
                Rig.due("no lambda: " + lines[i], lines[i].matches("\\s*(case .*|default) ->.*"));
            }
            if (lines[i].matches("(    |        )\\w.*\\) (throws .*)?\\{")) {
                begin = i;
            }
            if (lines[i].equals("    }") || lines[i].equals("        }")) {
                Rig.due("short method at line " + begin, i - begin <= 66);
                begin = i;
            }
        }
    }

    /** A run of 10,000 rounds may make little: 512 of them must find room. */
    private static void room() {
        com.sun.management.ThreadMXBean bean = (com.sun.management.ThreadMXBean) ManagementFactory.getThreadMXBean();
        Rig rig = new Rig(4);
        rig.words(Rig.BASE, Rig.lui(5, 6), Rig.csrrs(0, 768, 5), Rig.auipc(6, 0), Rig.addi(6, 6, -8),
                Rig.csrrw(0, 773, 6), Rig.r(83, 1, 7, 1, 2, 1), Rig.r(83, 1, 7, 1, 2, 13), Rig.r(67, 1, 7, 1, 2, 1),
                Rig.amo(0, 8, 7, 6, 5), Rig.ld(7, 6, 2000), Rig.ECALL);
        rig.machine.start();
        rig.machine.run(1000);
        long thread = Thread.currentThread().getId();
        long before = bean.getThreadAllocatedBytes(thread);
        for (int i = 0; i < 20; i++) {
            rig.machine.run(10000);
            rig.machine.start();
        }
        long made = bean.getThreadAllocatedBytes(thread) - before;
        System.out.println("made by 20 runs and starts: " + made + " bytes");
        Rig.due("little made by 20 runs and starts", made < 40 * SHARE);
        before = bean.getThreadAllocatedBytes(thread);
        BoardMachine machine = new BoardMachine(4);
        made = bean.getThreadAllocatedBytes(thread) - before;
        Rig.due("made by a new object: " + made + machine.processors(), made < ROOM);
    }

    public static void main(String[] args) throws Exception {
        face();
        source();
        room();
        Rig.finish("RulesTest");
    }
}
