import java.io.IOException;
import java.lang.reflect.Constructor;
import java.lang.reflect.Field;
import java.lang.reflect.Method;
import java.lang.reflect.Modifier;
import java.nio.file.Files;
import java.nio.file.Path;
import java.util.Arrays;
import java.util.Set;
import java.util.TreeSet;
import java.util.regex.Matcher;
import java.util.regex.Pattern;
import java.util.stream.Collectors;

/** The face of the class, and those rules of LANGUAGE.md that can be read off it. Argument: the source file. */
public final class RulesTest {
    private static final String I = " throws IndexOutOfBoundsException";
    private static final String A = " throws IllegalArgumentException";
    private static final String S = " throws IllegalStateException";
    private static final String IA = I + ", IllegalArgumentException";
    private static final String AS = A + ", IllegalStateException";
    private static final String IAS = IA + ", IllegalStateException";

    private static final String[] FACE = {
        "int reset(int)" + A, "int connect(int, int, int)" + IAS, "int disconnect(int)" + I,
        "int setWeight(int, int)" + IA, "int setTrend(int, int)" + IA, "int forbid(int, int, int)" + IAS,
        "int allow(int)" + I, "int count(int)" + A, "int edge(int, int)" + IA, "int node(int, int)" + IA,
        "int stretch(int, int)" + IA, "int distance(int, int)" + I, "int next(int, int)" + I, "int diameter()",
        "int distanceTo(int, int, int, int, int)" + IAS, "boolean isAllowed(int, int, int)" + IA,
        "int height(int, int, int, int, int)" + IAS, "int cost(int, int, int, int)" + IAS,
        "int corner(int, int, int)" + IAS, "int radius(int, int)" + AS, "int center(int, int)" + AS,
        "int critical(int)" + AS, "int median(int)" + AS, "int radiusOf(int, int)" + AS, "int group(int, int)" + AS,
        "int covering(int, int)" + AS, "int covered(int, int, int)" + IAS, "int changedRadius(int, int)" + AS,
        "int radiusWithout(int, int)" + IA, "int type(int)" + AS, "int clearText()", "int fault()", "int run()" + A,
        "int undo()" + S, "long checksum()"};

    /** What the rules leave out, as far as it shows in the text. */
    private static final String[] BANNED = {"\\bimport\\b", "\\bpackage\\b", "\\bprotected\\b", "->", "::", "\\bfinally\\b",
        "\\bsynchronized\\b", "\\bassert\\b", "\\bcatch\\b", "\\btry\\b", "System\\.", "Thread", "Random", "\\bstatic \\{",
        "Exact\\b", "hashCode", "\\btoString\\b", "\\bequals\\b", "\" \\+", "\\+ \"", "double", "float"};

    private static int wrong;

    public static void main(String[] args) throws IOException {
        face();
        members(NetworkCenters.class);
        source(Files.readString(Path.of(args[0])));
        System.out.println("RulesTest: " + wrong + " wrong");
        if (wrong > 0) {
            System.exit(1);
        }
    }

    private static void check(boolean good, String what) {
        if (!good) {
            wrong++;
            System.out.println("RulesTest: " + what);
        }
    }

    private static String shown(Method m) {
        String arguments = Arrays.stream(m.getParameterTypes()).map(Class::getSimpleName).collect(Collectors.joining(", "));
        String thrown = Arrays.stream(m.getExceptionTypes()).map(Class::getSimpleName).collect(Collectors.joining(", "));
        return m.getReturnType().getSimpleName() + " " + m.getName() + "(" + arguments + ")"
                + (thrown.isEmpty() ? "" : " throws " + thrown);
    }

    private static void face() {
        int kind = NetworkCenters.class.getModifiers();
        check(Modifier.isPublic(kind) && Modifier.isFinal(kind), "the class is not public and final");
        Set<String> found = new TreeSet<>();
        for (Method m : NetworkCenters.class.getDeclaredMethods()) {
            if (Modifier.isPublic(m.getModifiers())) {
                found.add(shown(m));
            }
        }
        check(found.equals(new TreeSet<>(Arrays.asList(FACE))), "the face is " + found);
        Constructor<?>[] made = NetworkCenters.class.getDeclaredConstructors();
        check(made.length == 1 && Modifier.isPublic(made[0].getModifiers()), "there is not one public constructor");
    }

    private static void members(Class<?> owner) {
        Set<String> names = new TreeSet<>();
        for (Method m : owner.getDeclaredMethods()) {
            if (Modifier.isPublic(m.getModifiers())) {
                names.add(m.getName());
            }
        }
        for (Method m : owner.getDeclaredMethods()) {
            boolean open = Modifier.isPublic(m.getModifiers());
            check(open || Modifier.isPrivate(m.getModifiers()), m + " is neither public nor private");
            check(open || !names.contains(m.getName()), m + " bears the name of a public one");
        }
        for (Field f : owner.getDeclaredFields()) {
            boolean constant = f.getName().equals("NONE");
            check(constant == Modifier.isPublic(f.getModifiers()), f + " is public or not as it should");
            check(constant || Modifier.isPrivate(f.getModifiers()), f + " is not private");
        }
        for (Class<?> inner : owner.getDeclaredClasses()) {
            check(Modifier.isStatic(inner.getModifiers()) && !Modifier.isPublic(inner.getModifiers()), inner + " is open");
            check(inner.getDeclaredFields().length <= 20, inner + " has many fields");
            for (Method m : inner.getDeclaredMethods()) {
                check(!names.contains(m.getName()), m + " bears the name of a public one");
                check(m.getParameterCount() <= 7, m + " has many parameters");
            }
            for (Field f : inner.getDeclaredFields()) {
                check(!Modifier.isStatic(f.getModifiers()), f + " is static");
            }
        }
        check(owner.getDeclaredClasses().length <= 12, "there are many classes");
    }

    private static void source(String text) {
        check(text.chars().allMatch(c -> c < 127), "the source has other signs than ASCII");
        String code = text.replaceAll("(?s)/\\*.*?\\*/", "").replaceAll("//[^\n]*", "");
        for (String banned : BANNED) {
            Matcher m = Pattern.compile(banned).matcher(code);
            check(!m.find(), "the source uses " + banned);
        }
        Matcher statics = Pattern.compile("static (?!final )(?!class )[^(=;]*[=;]").matcher(code);
        check(!statics.find(), "a static field is not final");
    }
}
