import java.lang.reflect.Constructor;
import java.lang.reflect.Field;
import java.lang.reflect.Member;
import java.lang.reflect.Method;
import java.lang.reflect.Modifier;
import java.nio.file.Files;
import java.nio.file.Path;
import java.util.ArrayList;
import java.util.List;
import java.util.Set;
import java.util.TreeSet;

/** The public face: the document's constants, constructor and methods, and nothing else that is not private. */
public final class FaceTest {
    private static final String[] METHODS = {
        "int rock(int)", "int light(int,int,int)", "int ship(int,int,int)", "int doAll()", "int card(int,int)",
        "int pass(int)", "int wage(int)", "int type(char)", "int clearText()", "int fault()", "int undo()",
        "int keep()", "int restore()", "int cellOf(int,int)", "int lightOf(int,int)", "int keeperOf(int,int)",
        "int shipOf(int,int)", "int isLit(int,int,int,int)", "int why(int,int)", "int count(int)",
        "float share(int)", "int litIn(int)", "int ifPassed(int)", "int bestCard(int)",
    };

    /** The face as it stands in the document, with what the interface says ahead of the calls. */
    private static final String[] FACE = {
        "public static final int UNKNOWN = -1;", "public static final int BAD_VALUE = -2;",
        "public static final int FULL = -3;", "public static final int NOT_POSSIBLE = -4;",
        "public static final int NONE = -5;", "public BeamKeepers();",
        "// ---- chart, lights", "public int rock(int cell);", "public int light(int light, int what, int value);",
        "public int ship(int worth, int cell, int harbour);", "public int doAll();",
        "// ---- keepers, hours", "public int card(int keeper, int light);", "public int pass(int hours);",
        "public int wage(int wage);",
        "// ---- texts", "public int type(char character);", "public int clearText();", "public int fault();",
        "// ---- history", "public int undo();", "public int keep();", "public int restore();",
        "// ---- what is told", "public int cellOf(int cell, int what);", "public int lightOf(int light, int what);",
        "public int keeperOf(int keeper, int what);", "public int shipOf(int ship, int what);",
        "public int isLit(int light, int cell, int hour, int way);", "public int why(int light, int cell);",
        "public int count(int what);", "public float share(int cell);",
        "// ---- what would be", "public int litIn(int cell);", "public int ifPassed(int hours);",
        "public int bestCard(int keeper);",
    };

    public static void main(String[] args) throws Exception {
        asItStands();
        Class<?> face = BeamKeepers.class;
        Check.due("UNKNOWN", BeamKeepers.UNKNOWN, -1);
        Check.due("BAD_VALUE", BeamKeepers.BAD_VALUE, -2);
        Check.due("FULL", BeamKeepers.FULL, -3);
        Check.due("NOT_POSSIBLE", BeamKeepers.NOT_POSSIBLE, -4);
        Check.due("NONE", BeamKeepers.NONE, -5);
        Check.due("public final", face.getModifiers(), Modifier.PUBLIC | Modifier.FINAL);
        Set<String> names = new TreeSet<>();
        int open = 0;
        for (Method method : face.getDeclaredMethods()) {
            if (isOpen(method)) {
                open++;
                names.add(told(method));
                Check.due("modifiers of " + method, method.getModifiers(), Modifier.PUBLIC);
            }
        }
        Check.due("methods", open, METHODS.length);
        for (String method : METHODS) {
            Check.due("there is " + method, names.contains(method) ? 1 : 0, 1);
        }
        noPrivateNames(face);
        int constants = 0;
        for (Field field : face.getDeclaredFields()) {
            if (isOpen(field)) {
                constants++;
                Check.due("constant " + field, field.getModifiers(),
                    Modifier.PUBLIC | Modifier.STATIC | Modifier.FINAL);
                Check.due("an int: " + field, field.getType() == int.class ? 1 : 0, 1);
            }
        }
        Check.due("constants", constants, 5);
        Constructor<?>[] constructors = face.getDeclaredConstructors();
        Check.due("constructors", constructors.length, 1);
        Check.due("public constructor", constructors[0].getModifiers(), Modifier.PUBLIC);
        Check.due("without arguments", constructors[0].getParameterCount(), 0);
        classesInside(face);
        Check.end();
    }

    private static void asItStands() throws Exception {
        List<String> lines = Files.readAllLines(Path.of("src/main/java/BeamKeepers.java"));
        Check.due("the class", lines.contains("public final class BeamKeepers {") ? 1 : 0, 1);
        List<String> told = new ArrayList<>();
        for (String line : lines) {
            if (line.startsWith("    public ") || line.startsWith("    // ----")) {
                told.add(line.strip().replace(" {", ";"));
            }
        }
        Check.due("lines of the face", told.size(), FACE.length);
        for (int i = 0; i < FACE.length && i < told.size(); i++) {
            Check.due("\"" + FACE[i] + "\" in its place", told.get(i).equals(FACE[i]) ? 1 : 0, 1);
        }
    }

    private static boolean isOpen(Member member) {
        return !Modifier.isPrivate(member.getModifiers()) && !member.isSynthetic();
    }

    private static String told(Method method) {
        StringBuilder text = new StringBuilder();
        text.append(method.getReturnType().getName()).append(' ').append(method.getName()).append('(');
        for (Class<?> type : method.getParameterTypes()) {
            text.append(text.charAt(text.length() - 1) == '(' ? "" : ",").append(type.getName());
        }
        return text.append(')').toString();
    }

    private static void noPrivateNames(Class<?> face) {
        Set<String> open = new TreeSet<>();
        for (String method : METHODS) {
            open.add(method.substring(method.indexOf(' ') + 1, method.indexOf('(')));
        }
        for (Method method : face.getDeclaredMethods()) {
            if (Modifier.isPrivate(method.getModifiers())) {
                Check.due("a public name: " + method, open.contains(method.getName()) ? 1 : 0, 0);
            }
        }
        for (Class<?> inside : face.getDeclaredClasses()) {
            for (Method method : inside.getDeclaredMethods()) {
                Check.due("a public name: " + method, open.contains(method.getName()) ? 1 : 0, 0);
            }
        }
    }

    private static void classesInside(Class<?> face) {
        Check.due("at most 12 classes", face.getDeclaredClasses().length < 12 ? 1 : 0, 1);
        for (Class<?> inside : face.getDeclaredClasses()) {
            int modifiers = inside.getModifiers();
            Check.due("static: " + inside, Modifier.isStatic(modifiers) ? 1 : 0, 1);
            Check.due("not open: " + inside, modifiers & (Modifier.PUBLIC | Modifier.PROTECTED), 0);
            int fields = 0;
            for (Field field : inside.getDeclaredFields()) {
                fields += Modifier.isStatic(field.getModifiers()) ? 0 : 1;
            }
            Check.due("at most 20 fields: " + inside, fields <= 20 ? 1 : 0, 1);
        }
    }
}
