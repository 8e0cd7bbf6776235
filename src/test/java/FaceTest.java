import java.lang.reflect.Constructor;
import java.lang.reflect.Field;
import java.lang.reflect.Method;
import java.lang.reflect.Modifier;
import java.util.Set;
import java.util.TreeSet;

/** The public face is the document's, and nothing else can be seen from outside (rule 1 of LANGUAGE.md). */
public final class FaceTest {
    private static int wrong = 0;

    public static void main(String[] args) {
        members();
        methods();
        names();
        System.out.println("face: " + wrong + " wrong");
        if (wrong > 0) {
            System.exit(1);
        }
    }

    private static void check(String what, boolean right) {
        if (!right) {
            wrong++;
            System.out.println("face: " + what);
        }
    }

    private static void members() {
        Class<?> face = InfluenceRows.class;
        check("public and final", Modifier.isPublic(face.getModifiers()) && Modifier.isFinal(face.getModifiers()));
        check("one constructor", face.getDeclaredConstructors().length == 1);
        for (Constructor<?> one : face.getDeclaredConstructors()) {
            check("a public constructor without arguments",
                Modifier.isPublic(one.getModifiers()) && one.getParameterCount() == 0);
        }
        for (Field one : face.getDeclaredFields()) {
            boolean constant = one.getName().equals("BAD") || one.getName().equals("NONE");
            check("field " + one.getName(), constant
                ? one.getModifiers() == (Modifier.PUBLIC | Modifier.STATIC | Modifier.FINAL)
                : Modifier.isPrivate(one.getModifiers()));
        }
        for (Class<?> one : face.getDeclaredClasses()) {
            check("class " + one.getName(), Modifier.isStatic(one.getModifiers())
                && Modifier.isPrivate(one.getModifiers()));
        }
    }

    private static void methods() {
        Set<String> due = new TreeSet<>(Set.of(
            "boolean unit(int)", "int read()",
            "boolean member(int,long,long) ArrayIndexOutOfBoundsException",
            "boolean support(int,int,boolean) ArrayIndexOutOfBoundsException",
            "boolean hinge(int,int,boolean) ArrayIndexOutOfBoundsException",
            "int solve()", "int loose(int)", "int row(int,int,int)", "long at(int,int,int,int)",
            "long area(int,int,int)", "boolean turned(int)", "boolean sums()", "boolean settled(int,long)",
            "long move(int,long,long,int)", "int count(int)"));
        Set<String> found = new TreeSet<>();
        for (Method one : InfluenceRows.class.getDeclaredMethods()) {
            if (!Modifier.isPrivate(one.getModifiers())) {
                check(one.getName() + " is public, and no static one",
                    one.getModifiers() == Modifier.PUBLIC);
                found.add(told(one));
            }
        }
        check("methods are " + found, found.equals(due));
    }

    private static String told(Method one) {
        StringBuilder text = new StringBuilder(one.getReturnType().getSimpleName()).append(' ')
            .append(one.getName()).append('(');
        for (int i = 0; i < one.getParameterCount(); i++) {
            text.append(i > 0 ? "," : "").append(one.getParameterTypes()[i].getSimpleName());
        }
        text.append(')');
        for (Class<?> thrown : one.getExceptionTypes()) {
            text.append(' ').append(thrown.getSimpleName());
        }
        return text.toString();
    }

    private static void names() {
        Set<String> open = new TreeSet<>();
        for (Method one : InfluenceRows.class.getDeclaredMethods()) {
            if (Modifier.isPublic(one.getModifiers())) {
                open.add(one.getName());
            }
        }
        for (Method one : InfluenceRows.class.getDeclaredMethods()) {
            check(one.getName() + " bears a public name",
                Modifier.isPublic(one.getModifiers()) || !open.contains(one.getName()));
        }
        for (Class<?> inside : InfluenceRows.class.getDeclaredClasses()) {
            for (Method one : inside.getDeclaredMethods()) {
                check(inside.getSimpleName() + "." + one.getName() + " bears a public name",
                    !open.contains(one.getName()));
            }
        }
    }
}
