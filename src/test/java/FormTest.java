import java.io.DataInputStream;
import java.io.IOException;
import java.io.InputStream;
import java.lang.reflect.Executable;
import java.lang.reflect.Field;
import java.lang.reflect.Modifier;
import java.nio.charset.StandardCharsets;
import java.nio.file.Files;
import java.nio.file.Path;
import java.util.ArrayList;
import java.util.List;
import java.util.Set;
import java.util.TreeSet;
import java.util.regex.Matcher;
import java.util.regex.Pattern;

/**
 * The rules of LANGUAGE.md that can be seen in the file, in the compiled classes and by reflection: what is told
 * of the face alone is in FaceTest, of room in RoomTest. The numbers of the rules stand by each.
 */
public final class FormTest {
    private static final Check CHECK = new Check("FormTest");
    private static final Path FILE = Path.of("src/main/java/BottomDrawer.java");
    private static final int CLASS = 7, INVOKE_DYNAMIC = 18;
    /** What the class needs of the library (rule 4); whoever needs more of what rule 4 lists adds it here. */
    private static final Set<String> LIBRARY = Set.of("java/lang/Object", "java/lang/String", "java/lang/Integer",
            "java/lang/Math");
    private static final String[] NOT_LEFT = {"package", "import", "protected", "synchronized", "assert", "finally",
        "native", "volatile", "transient", "strictfp", "var", "equals", "hashCode", "toString", "\\w+Exact"};
    /** The document names no exception, so that nothing is to be thrown or caught at all. */
    private static final String[] NOT_ASKED = {"throw", "throws", "try", "catch"};
    private static final Pattern METHOD =
            Pattern.compile("( ++)(?!if |for |while |switch |do |else |return )[\\w\\[\\], ]+\\([\\w\\[\\], ]*\\) \\{");

    public static void main(String[] args) throws Exception {
        String source = Files.readString(FILE, StandardCharsets.ISO_8859_1);
        List<Class<?>> classes = new ArrayList<>(List.of(BottomDrawer.class));
        classes.addAll(List.of(BottomDrawer.class.getDeclaredClasses()));
        signs(source);
        words(source);
        methodsShort(source);
        CHECK.due("some twelve classes at most (11)", Math.max(classes.size(), 12), 12);
        for (Class<?> one : classes) {
            CHECK.due("classes inside " + one.getName(), one == BottomDrawer.class ? 0 : one.getDeclaredClasses().length, 0);
            fields(one);
            parameters(one);
            library(one);
        }
        severalAtOnce();
        CHECK.end();
    }

    /** 3, 4: signs 1 to 127. */
    private static void signs(String source) {
        int others = 0;
        for (int i = 0; i < source.length(); i++) {
            others += source.charAt(i) < 1 || source.charAt(i) > 127 ? 1 : 0;
        }
        CHECK.due("signs beside 1 to 127", others, 0);
    }

    /** 2, 4, 6, 10: words that are not left, outside comments and texts. */
    private static void words(String source) {
        String bare = bare(source);
        for (String[] words : new String[][] {NOT_LEFT, NOT_ASKED}) {
            for (String word : words) {
                CHECK.due("the word " + word, Pattern.compile("\\b" + word + "\\b").matcher(bare).find() ? 1 : 0, 0);
            }
        }
        CHECK.due("a lambda", bare.contains("->") ? 1 : 0, 0);
        CHECK.due("a method reference", bare.contains("::") ? 1 : 0, 0);
    }

    private static String bare(String source) {
        return source.replaceAll("(?s)/\\*.*?\\*/", " ").replaceAll("//[^\n]*", " ")
                .replaceAll("\"(\\\\.|[^\"\\\\\n])*\"", "\"\"").replaceAll("'(\\\\.|[^'\\\\\n])'", "' '");
    }

    /** 11: methods of some sixty lines at most. */
    private static void methodsShort(String source) {
        String[] lines = source.split("\n");
        int found = 0;
        for (int i = 0; i < lines.length; i++) {
            Matcher method = METHOD.matcher(lines[i]);
            if (method.matches()) {
                found++;
                int end = i;
                while (end < lines.length - 1 && !lines[end].equals(method.group(1) + "}")) {
                    end++;
                }
                CHECK.due("lines of " + lines[i].trim(), Math.max(end - i + 1, 60), 60);
            }
        }
        CHECK.due("methods are found at all", found >= 27 ? 1 : 0, 1);
    }

    /** 3, 5, 11: some twenty fields; a static one is a constant of a number, a boolean, a sign or a text. */
    private static void fields(Class<?> one) {
        int own = 0;
        for (Field field : one.getDeclaredFields()) {
            String name = one.getName() + "." + field.getName();
            Class<?> type = field.getType();
            if (Modifier.isStatic(field.getModifiers())) {
                boolean constant = Modifier.isFinal(field.getModifiers())
                        && (type == int.class || type == long.class || type == boolean.class || type == char.class
                        || type == String.class);
                CHECK.due(name + " is a constant", constant ? 1 : 0, 1);
            } else {
                own++;
                Class<?> of = type.isArray() ? type.getComponentType() : type;
                boolean left = of.isPrimitive() || of.getName().startsWith("BottomDrawer");
                CHECK.due("the type of " + name + " is left", left ? 1 : 0, 1);
            }
        }
        CHECK.due("fields of " + one.getName(), Math.max(own, 20), 20);
    }

    /** 11: seven parameters at most. */
    private static void parameters(Class<?> one) {
        List<Executable> all = new ArrayList<>(List.of(one.getDeclaredMethods()));
        all.addAll(List.of(one.getDeclaredConstructors()));
        for (Executable method : all) {
            CHECK.due("parameters of " + one.getName() + "." + method.getName(), Math.max(method.getParameterCount(), 7), 7);
        }
    }

    /** 4, 10: no class of the library but those that are needed; no text joined by +. */
    private static void library(Class<?> one) throws IOException {
        TreeSet<String> others = new TreeSet<>();
        try (InputStream file = one.getResourceAsStream("/" + one.getName() + ".class");
                DataInputStream in = new DataInputStream(file)) {
            in.readInt();
            in.readInt();
            int size = in.readUnsignedShort();
            String[] texts = new String[size];
            List<Integer> classes = new ArrayList<>();
            for (int i = 1; i < size; i++) {
                int tag = in.readUnsignedByte();
                switch (tag) {
                    case 1: texts[i] = in.readUTF(); break;
                    case CLASS: classes.add(in.readUnsignedShort()); break;
                    case 8: case 16: case 19: case 20: in.readUnsignedShort(); break;
                    case 15: in.readUnsignedByte(); in.readUnsignedShort(); break;
                    case 5: case 6: in.readLong(); i++; break;
                    default: in.readInt(); break;
                }
                CHECK.due("invokedynamic in " + one.getName(), tag == INVOKE_DYNAMIC ? 1 : 0, 0);
            }
            for (int name : classes) {
                String used = texts[name];
                if (!used.startsWith("BottomDrawer") && !used.startsWith("[") && !LIBRARY.contains(used)) {
                    others.add(used);
                }
            }
        }
        CHECK.same("the library that " + one.getName() + " uses beside what it needs", others.toString(), "[]");
    }

    /** 5: no static state: what is asked of one object is not seen in others, whatever these are asked between. */
    private static void severalAtOnce() {
        BottomDrawer first = new BottomDrawer();
        Edges.busy(first);
        String before = Check.look(first);
        BottomDrawer second = Check.laid("r9,0;t0,1,1;l1,1,1;n0,0;");
        second.see(0, true);
        second.pass(20);
        second.wipe();
        second.write('x');
        CHECK.same("a busy one beside another", Check.look(first), before);
        CHECK.due("fault, the other", second.fault(), 0);
        CHECK.due("fault, the busy one", first.fault(), BottomDrawer.NONE);
        BottomDrawer[] both = {new BottomDrawer(), new BottomDrawer()};
        for (BottomDrawer d : both) {
            CHECK.due("pass(2), by turns", d.pass(2), 18);
        }
        CHECK.due("put(0), the one", both[0].put(0), 18);
        CHECK.due("put(1), the other", both[1].put(1), 19);
        CHECK.due("talk(0), the one", both[0].talk(0), BottomDrawer.NONE);
        CHECK.due("row(0), the other", both[1].row(0), 0);
        CHECK.due("room, the one", both[0].room(), 6);
        CHECK.due("room, the other", both[1].room(), 5);
        CHECK.due("keep, the one", both[0].keep(), 1);
        CHECK.due("back, the other", both[1].back(), BottomDrawer.NO);
        CHECK.due("undo, the other", both[1].undo(), 1);
        CHECK.due("what can be UNDONE, the one", both[0].count(9), 2);
    }
}
