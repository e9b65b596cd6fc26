import java.lang.reflect.Constructor;
import java.lang.reflect.Field;
import java.lang.reflect.Method;
import java.lang.reflect.Modifier;
import java.util.ArrayList;
import java.util.Arrays;
import java.util.List;
import java.util.TreeSet;

/** The public face, as the document has it, and rule 1 of the language. */
public final class FaceTest {
    private static final String[] FACE = {
        "int feed(int,int,int,int,int)",
        "int text(int) IllegalArgumentException",
        "int fault()",
        "int put(int,int,int,int,int) IllegalArgumentException IllegalStateException",
        "int take(int) NoSuchElementException",
        "int exchange(int,int,int) NoSuchElementException IllegalArgumentException",
        "int finish()",
        "int develop() IllegalStateException",
        "int undo()",
        "int told(int) IllegalArgumentException",
        "int line(int,int,int) NoSuchElementException IllegalArgumentException",
        "int node(int,int) NoSuchElementException IllegalArgumentException",
        "int part(int,int) NoSuchElementException",
        "long left()",
        "int parts(int) IllegalArgumentException",
        "long partAt(int) NoSuchElementException",
        "int tests()",
        "int search(int) IllegalArgumentException",
        "int exchanges(int,int) NoSuchElementException IllegalArgumentException",
        "int classes() IllegalStateException",
        "int cover(int,int) IllegalArgumentException",
        "int good(int) IllegalArgumentException",
        "int base(int,int) NoSuchElementException",
        "long print()",
        "int status(int)",
    };

    public static void main(String[] args) throws ReflectiveOperationException {
        Due due = new Due();
        Class<?> face = PartedNet.class;
        due.holds("the class is public and final",
                Modifier.isPublic(face.getModifiers()) && Modifier.isFinal(face.getModifiers()));
        TreeSet<String> open = new TreeSet<>();
        List<String> hidden = new ArrayList<>();
        for (Method method : face.getDeclaredMethods()) {
            if (Modifier.isPrivate(method.getModifiers())) {
                hidden.add(method.getName());
            } else {
                due.holds(method + " is public, not static",
                        Modifier.isPublic(method.getModifiers()) && !Modifier.isStatic(method.getModifiers()));
                open.add(spell(method));
            }
        }
        TreeSet<String> wanted = new TreeSet<>(Arrays.asList(FACE));
        due.holds("the face is " + wanted + ", found " + open, open.equals(wanted));
        for (String name : hidden) {
            due.holds("no private method bears a public name: " + name,
                    wanted.stream().noneMatch(f -> f.contains(" " + name + "(")));
        }
        for (Field field : face.getDeclaredFields()) {
            boolean isNone = field.getName().equals("NONE");
            due.holds(field + " is private, but for NONE", isNone != Modifier.isPrivate(field.getModifiers()));
        }
        due.same("NONE", face.getField("NONE").getInt(null), -1);
        Constructor<?>[] makers = face.getDeclaredConstructors();
        due.holds("one public constructor without parameters", makers.length == 1
                && Modifier.isPublic(makers[0].getModifiers()) && makers[0].getParameterCount() == 0);
        for (Class<?> inside : face.getDeclaredClasses()) {
            due.holds(inside + " is static and not open", Modifier.isStatic(inside.getModifiers())
                    && !Modifier.isPublic(inside.getModifiers()) && !Modifier.isProtected(inside.getModifiers()));
        }
        due.end();
    }

    private static String spell(Method method) {
        StringBuilder text = new StringBuilder();
        text.append(method.getReturnType().getSimpleName()).append(' ').append(method.getName()).append('(');
        String comma = "";
        for (Class<?> parameter : method.getParameterTypes()) {
            text.append(comma).append(parameter.getSimpleName());
            comma = ",";
        }
        text.append(')');
        for (Class<?> thrown : method.getExceptionTypes()) {
            text.append(' ').append(thrown.getSimpleName());
        }
        return text.toString();
    }
}
