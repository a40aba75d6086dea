import java.lang.reflect.Constructor;
import java.lang.reflect.Field;
import java.lang.reflect.Method;
import java.lang.reflect.Modifier;
import java.util.Arrays;
import java.util.Set;
import java.util.TreeSet;

/** The public face is the document's and nothing more (LANGUAGE.md, rule 1). */
public final class FaceTest {
    private static final String[] FACE = {
        "int insert(int, int, int)", "int delete(int, int)", "int style(int, int, int, int, int)",
        "int comment(int, int, int)", "int block(int, int, int)", "int undo(int, int)",
        "boolean see(int, int)", "int meet(int, int)", "int sign(int, int)", "int id(int, int)",
        "int unit(int, int)", "int styled(int, int, int)", "int run(int, int, int)",
        "int lies(int, int, int)", "int paragraph(int, int, int)", "int row(int, int)",
        "boolean alike(int, int)", "int total(int, int)"
    };

    public static void main(String[] args) {
        Due due = new Due("FaceTest");
        due.is("the class is public and final",
                Modifier.isPublic(TextMarks.class.getModifiers()) && Modifier.isFinal(TextMarks.class.getModifiers()), true);
        due.part("methods");
        methods(due);
        due.part("constants and constructors");
        fields(due);
        Constructor<?>[] made = TextMarks.class.getDeclaredConstructors();
        due.is("constructors", made.length, 1);
        due.is("it takes", made[0].getParameterCount(), 0);
        due.is("it is public", Modifier.isPublic(made[0].getModifiers()), true);
        due.part("classes inside");
        for (Class<?> inside : TextMarks.class.getDeclaredClasses()) {
            int modifiers = inside.getModifiers();
            due.is(inside.getName() + " is static", Modifier.isStatic(modifiers), true);
            due.is(inside.getName() + " is seen outside",
                    Modifier.isPublic(modifiers) || Modifier.isProtected(modifiers), false);
        }
        due.end();
    }

    private static void methods(Due due) {
        Set<String> want = new TreeSet<>(Arrays.asList(FACE));
        Set<String> names = new TreeSet<>();
        for (String method : FACE) {
            names.add(method.substring(method.indexOf(' ') + 1, method.indexOf('(')));
        }
        for (Method method : TextMarks.class.getDeclaredMethods()) {
            if (Modifier.isPrivate(method.getModifiers())) {
                due.is("private " + method.getName() + " bears a public name", names.contains(method.getName()), false);
                continue;
            }
            due.is(spell(method) + " is of the face", want.remove(spell(method)), true);
            due.is(spell(method) + " is public", Modifier.isPublic(method.getModifiers()), true);
            due.is(spell(method) + " is static", Modifier.isStatic(method.getModifiers()), false);
        }
        due.is("missing methods " + want, want.size(), 0);
    }

    private static String spell(Method method) {
        String list = Arrays.toString(method.getParameterTypes());
        return method.getReturnType() + " " + method.getName() + "(" + list.substring(1, list.length() - 1) + ")";
    }

    private static void fields(Due due) {
        due.is("NONE", TextMarks.NONE, -1);
        for (Field field : TextMarks.class.getDeclaredFields()) {
            int modifiers = field.getModifiers();
            boolean isNone = field.getName().equals("NONE");
            due.is(field.getName() + " is public", Modifier.isPublic(modifiers), isNone);
            due.is(field.getName() + " is private", Modifier.isPrivate(modifiers), !isNone);
            due.is(field.getName() + " is static but not final",
                    Modifier.isStatic(modifiers) && !Modifier.isFinal(modifiers), false);
        }
    }
}
