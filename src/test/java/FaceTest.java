import java.io.IOException;
import java.lang.reflect.Field;
import java.lang.reflect.Method;
import java.lang.reflect.Modifier;
import java.nio.file.Files;
import java.nio.file.Path;
import java.util.Set;
import java.util.TreeSet;
import java.util.regex.Matcher;
import java.util.regex.Pattern;

/** The public face of the document, and those rules of LANGUAGE.md that can be seen from outside. */
public final class FaceTest {
    private static final String[] FACE = {
        "int feed/1", "int end/1", "int text/0", "int fault/0", "int rule/1", "int block/2", "int place/2", "int roll/2",
        "int alter/3", "int set/2", "int turn/1", "int paint/2", "int print/2", "int stock/2", "int drop/1",
        "int years/1", "int runs/2", "int ahead/2", "int fades/1",
        "int stretch/2", "int hang/1", "int shade/2", "int swap/1", "int period/0", "int alike/0", "int cover/2", "int most/2",
        "long luck/5", "long mean/4",
        "int see/2", "int forget/1", "int kinds/1", "int warmths/1", "int shifts/0", "int ask/1",
        "int drift/3", "int keep/1", "int back/1", "int sheet/3", "int lay/3", "int read/4", "int torn/0", "int count/1"};
    private static final String FORBIDDEN = "\\b(throw|throws|try|catch|synchronized|assert|double|float|Thread|Random"
        + "|hashCode|toString|static \\{|[a-z]+Exact)\\b|->|::|@";

    private static int wrong = 0;

    private static void due(String what, Object got, Object want) {
        if (!got.equals(want)) {
            wrong++;
            System.out.println(what + " is " + got + ", due is " + want);
        }
    }

    private static void methods() {
        Set<String> names = new TreeSet<>();
        Set<String> open = new TreeSet<>();
        for (Method m : FriezeFolk.class.getDeclaredMethods()) {
            if (!Modifier.isPrivate(m.getModifiers())) {
                open.add(m.getReturnType() + " " + m.getName() + "/" + m.getParameterCount());
                names.add(m.getName());
                for (Class<?> type : m.getParameterTypes()) {
                    due("a parameter of " + m.getName(), type, int.class);
                }
            }
        }
        due("the face", open, new TreeSet<>(Set.of(FACE)));
        hidden(FriezeFolk.class, names);
        for (Class<?> inside : FriezeFolk.class.getDeclaredClasses()) {
            due("static " + inside, Modifier.isStatic(inside.getModifiers()), true);
            hidden(inside, names);
        }
    }

    private static void hidden(Class<?> type, Set<String> names) {
        for (Method m : type.getDeclaredMethods()) {
            boolean face = type == FriezeFolk.class && Modifier.isPublic(m.getModifiers());
            due(m + " bears a name of the face", !face && names.contains(m.getName()), false);
            due(m + " takes more than seven", m.getParameterCount() > 7, false);
        }
    }

    private static void fields() {
        Set<String> open = new TreeSet<>();
        for (Field f : FriezeFolk.class.getDeclaredFields()) {
            if (!Modifier.isPrivate(f.getModifiers())) {
                open.add(Modifier.toString(f.getModifiers()) + " " + f.getType() + " " + f.getName());
            }
            due(f + " is static and not final", Modifier.isStatic(f.getModifiers()) && !Modifier.isFinal(f.getModifiers()), false);
        }
        due("the constants", open, new TreeSet<>(Set.of("public static final int BAD", "public static final int STATE",
            "public static final int FULL", "public static final int NONE")));
        due("the class", Modifier.toString(FriezeFolk.class.getModifiers()), "public final");
        due("the constructors", FriezeFolk.class.getConstructors().length, 1);
    }

    private static void source() throws IOException {
        String all = Files.readString(Path.of("src/main/java/FriezeFolk.java"));
        String code = all.replaceAll("(?s)/\\*.*?\\*/", "").replaceAll("//[^\n]*", "");
        Matcher m = Pattern.compile(FORBIDDEN).matcher(code);
        while (m.find()) {
            due("a word of the source", m.group(), "another");
        }
        Matcher imports = Pattern.compile("import ([^;]*);").matcher(code);
        while (imports.find()) {
            due("an import", imports.group(1), "java.util.Arrays");
        }
    }

    public static void main(String[] args) throws IOException {
        methods();
        fields();
        source();
        System.out.println(wrong == 0 ? "the face is as due" : wrong + " things are not as due");
        if (wrong != 0) {
            System.exit(1);
        }
    }
}
