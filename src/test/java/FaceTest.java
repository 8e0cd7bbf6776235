import java.io.IOException;
import java.lang.reflect.Constructor;
import java.lang.reflect.Field;
import java.lang.reflect.Method;
import java.lang.reflect.Modifier;
import java.nio.file.Files;
import java.nio.file.Path;
import java.util.Arrays;
import java.util.Set;
import java.util.TreeSet;
import java.util.regex.Matcher;
import java.util.regex.Pattern;

/** The public face is the document's, and the source keeps to what can be seen of LANGUAGE.md. */
public final class FaceTest {
    private static int wrong = 0;

    public static void main(String[] args) throws IOException {
        members();
        methods();
        names();
        source();
        System.out.println("face: " + wrong + " wrong");
        if (wrong > 0) {
            System.exit(1);
        }
    }

    private static void check(String what, boolean right) {
        if (!right) {
            wrong++;
            System.out.println("face: " + what);
        }
    }

    private static void members() {
        Class<?> face = InfluenceRows.class;
        check("public and final", Modifier.isPublic(face.getModifiers()) && Modifier.isFinal(face.getModifiers()));
        check("one constructor", face.getDeclaredConstructors().length == 1);
        for (Constructor<?> one : face.getDeclaredConstructors()) {
            check("a public constructor without arguments",
                Modifier.isPublic(one.getModifiers()) && one.getParameterCount() == 0);
        }
        for (Field one : face.getDeclaredFields()) {
            boolean constant = one.getName().equals("BAD") || one.getName().equals("NONE");
            check("field " + one.getName(), constant
                ? one.getModifiers() == (Modifier.PUBLIC | Modifier.STATIC | Modifier.FINAL)
                : Modifier.isPrivate(one.getModifiers()));
        }
        Class<?>[] inside = face.getDeclaredClasses();
        check("some twelve classes", inside.length < 12);
        for (Class<?> one : inside) {
            check("class " + one.getName(), Modifier.isStatic(one.getModifiers())
                && Modifier.isPrivate(one.getModifiers()));
            long fields = Arrays.stream(one.getDeclaredFields())
                .filter(f -> !Modifier.isStatic(f.getModifiers())).count();
            check("fields of " + one.getName(), fields <= 20);
        }
    }

    private static void methods() {
        Set<String> due = new TreeSet<>(Set.of(
            "boolean unit(int)", "int read()",
            "boolean member(int,long,long) ArrayIndexOutOfBoundsException",
            "boolean support(int,int,boolean) ArrayIndexOutOfBoundsException",
            "boolean hinge(int,int,boolean) ArrayIndexOutOfBoundsException",
            "int solve()", "int loose(int)", "int row(int,int,int)", "long at(int,int,int,int)",
            "long area(int,int,int)", "boolean turned(int)", "boolean sums()", "boolean settled(int,long)",
            "long move(int,long,long,int)", "int count(int)"));
        Set<String> found = new TreeSet<>();
        for (Method one : InfluenceRows.class.getDeclaredMethods()) {
            if (!Modifier.isPrivate(one.getModifiers())) {
                check(one.getName() + " is public, and no static one",
                    one.getModifiers() == Modifier.PUBLIC);
                found.add(told(one));
            }
        }
        check("methods are " + found, found.equals(due));
    }

    private static String told(Method one) {
        StringBuilder text = new StringBuilder(one.getReturnType().getSimpleName()).append(' ')
            .append(one.getName()).append('(');
        for (int i = 0; i < one.getParameterCount(); i++) {
            text.append(i > 0 ? "," : "").append(one.getParameterTypes()[i].getSimpleName());
        }
        text.append(')');
        for (Class<?> thrown : one.getExceptionTypes()) {
            text.append(' ').append(thrown.getSimpleName());
        }
        return text.toString();
    }

    private static void names() {
        Set<String> open = new TreeSet<>();
        for (Method one : InfluenceRows.class.getDeclaredMethods()) {
            if (Modifier.isPublic(one.getModifiers())) {
                open.add(one.getName());
            }
        }
        for (Method one : InfluenceRows.class.getDeclaredMethods()) {
            check(one.getName() + " bears a public name",
                Modifier.isPublic(one.getModifiers()) || !open.contains(one.getName()));
        }
        for (Class<?> inside : InfluenceRows.class.getDeclaredClasses()) {
            for (Method one : inside.getDeclaredMethods()) {
                check(inside.getSimpleName() + "." + one.getName() + " bears a public name",
                    !open.contains(one.getName()));
                check(one.getName() + " takes too much", one.getParameterCount() <= 7);
            }
        }
    }

    private static void source() throws IOException {
        String root = System.getProperty("project.root", ".");
        String text = Files.readString(Path.of(root, "src", "main", "java", "InfluenceRows.java"));
        String bare = text.replaceAll("(?s)/\\*.*?\\*/", "").replaceAll("//[^\n]*", "");
        String[] none = {"\\bcatch\\b", "\\btry\\b", "\\bfinally\\b", "\\bdouble\\b", "\\bfloat\\b", "->", "::",
            "\\bsynchronized\\b", "\\bassert\\b", "\\bpackage\\b", "\\bprotected\\b", "Exact\\(", "\\bSystem\\.(?!arraycopy)",
            "\\bThread\\b", "\\bRandom\\b", "\\bString\\b", "static \\{"};
        for (String one : none) {
            check("the source holds " + one, !Pattern.compile(one).matcher(bare).find());
        }
        Matcher imports = Pattern.compile("import ([^;]+);").matcher(bare);
        while (imports.find()) {
            check("import " + imports.group(1), imports.group(1).equals("java.util.Arrays"));
        }
        Matcher thrown = Pattern.compile("throw ([^;(]+)").matcher(bare);
        while (thrown.find()) {
            check("throw " + thrown.group(1), thrown.group(1).equals("new ArrayIndexOutOfBoundsException"));
        }
        Matcher calls = Pattern.compile("\\b(Arrays|Math|Long)\\.(\\w+)").matcher(bare);
        while (calls.find()) {
            check("call of " + calls.group(), Set.of("Arrays.fill", "Arrays.copyOf", "Math.max", "Math.floorDiv",
                "Long.signum").contains(calls.group()));
        }
        check("plain signs alone", text.chars().allMatch(c -> c < 127));
    }
}
