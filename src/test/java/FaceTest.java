import java.lang.reflect.Field;
import java.lang.reflect.Member;
import java.lang.reflect.Method;
import java.lang.reflect.Modifier;
import java.util.Arrays;
import java.util.HashSet;
import java.util.Set;
import java.util.TreeSet;

/** The public face, told as the document tells it, and nothing beside it. */
public final class FaceTest {
    private static final String[] FACE = {
        "int feed(int, int, int, int, int)", "boolean end(int)", "int deed()", "int law()", "int fault()",
        "int item(int, int)", "int room(int, int)", "int side(int, int)", "int does(int, int)", "int steps(int, int)",
        "int carry(int, int)", "int mend(int)", "int sweep(int)", "int pay(int, int)", "int take()", "int days(int)",
        "int ahead(int, int, int)", "int missing()", "int worse()", "int mislaid()", "int work()",
        "int first(boolean)", "int round()", "int worst(int)", "int saves(int, boolean)", "int search(int)",
        "int costs()", "int calm(int, int)", "int boats(int, int, int)", "int rests()", "int due()",
        "int lighten(int)", "int wearing(int)", "int meets(int, int)", "int visits(int, int)", "int crowd(int)",
        "int stays(int)", "int parted(boolean)", "int clash()", "int full()", "int settles()", "int richest()",
        "int traces(boolean)", "int look()", "int like()", "int trial(int, boolean)", "int span(int, boolean)",
        "int led(int, boolean)", "int log(int, int)", "int seed(int)", "boolean undo()", "void image()",
        "boolean back()", "int count(int)"};

    public static void main(String[] args) {
        Set<String> faces = new TreeSet<>();
        Set<String> names = new HashSet<>();
        for (Method method : HalfIsle.class.getDeclaredMethods()) {
            if (Modifier.isPublic(method.getModifiers())) {
                names.add(method.getName());
                faces.add(told(method));
            }
        }
        Set<String> due = new TreeSet<>(Arrays.asList(FACE));
        same("methods", faces, due);
        Checks.is("final", Modifier.isFinal(HalfIsle.class.getModifiers()), true);
        Checks.is("constructors", HalfIsle.class.getDeclaredConstructors().length, 1);
        for (Field field : HalfIsle.class.getDeclaredFields()) {
            hidden(field, field.getName().equals("NONE"));
        }
        hides(HalfIsle.class, names);
        for (Class<?> inside : HalfIsle.class.getDeclaredClasses()) {
            Checks.is(inside + " static", Modifier.isStatic(inside.getModifiers()), true);
            Checks.is(inside + " public", Modifier.isPublic(inside.getModifiers()), false);
            hides(inside, names);
        }
        Checks.ends();
    }

    /** No method beside the face is open, or bears the name of one of the face. */
    private static void hides(Class<?> kind, Set<String> names) {
        for (Method method : kind.getDeclaredMethods()) {
            boolean face = kind == HalfIsle.class && Modifier.isPublic(method.getModifiers());
            if (!face) {
                Checks.is(method + " bears a name of the face", names.contains(method.getName()), false);
                if (kind == HalfIsle.class) {
                    hidden(method, false);
                }
            }
        }
    }

    private static void hidden(Member member, boolean open) {
        Checks.is(member + " is private", Modifier.isPrivate(member.getModifiers()), !open);
    }

    private static String told(Method method) {
        StringBuilder out = new StringBuilder();
        out.append(method.getReturnType()).append(' ').append(method.getName()).append('(');
        for (Class<?> kind : method.getParameterTypes()) {
            out.append(out.charAt(out.length() - 1) == '(' ? "" : ", ").append(kind);
        }
        return out.append(')').toString();
    }

    private static void same(String what, Set<String> got, Set<String> want) {
        Checks.is(what, got.equals(want), true);
        if (!got.equals(want)) {
            System.out.println("got " + got + ", due are " + want);
        }
    }
}
