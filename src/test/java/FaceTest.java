import java.lang.reflect.Constructor;
import java.lang.reflect.Field;
import java.lang.reflect.Member;
import java.lang.reflect.Method;
import java.lang.reflect.Modifier;
import java.util.ArrayList;
import java.util.Arrays;
import java.util.List;
import java.util.Set;
import java.util.TreeSet;

/** "The public face" of the document, and rule 1 of LANGUAGE.md: the class has that face and no more. */
final class FaceTest {
    private static final Set<String> FACE = Set.of(
            "public static final int NONE",
            "public LayeredPage()",
            "public int shape(long,int,int,int)",
            "public int place(int,int,int)",
            "public boolean paint(int,int,long)",
            "public void clear()",
            "public int encode(int)",
            "public int length()",
            "public int octet(int)",
            "public boolean alter(int,int)",
            "public boolean cut(int)",
            "public int decode()",
            "public int pixel(int,int)",
            "public boolean inked(int,int)",
            "public int cell(int,int,int)",
            "public int coefficient(int,int,int)",
            "public int shapes()",
            "public long glyph(int)",
            "public int placings()");

    public static void main(String[] args) {
        Check check = new Check();
        checkFace(check);
        checkNames(check);
        check.end();
    }

    private static void checkFace(Check check) {
        Set<String> seen = new TreeSet<>();
        for (Field field : LayeredPage.class.getDeclaredFields()) {
            if (!Modifier.isPrivate(field.getModifiers())) {
                seen.add(modifiers(field) + field.getType() + " " + field.getName());
            }
        }
        for (Constructor<?> made : LayeredPage.class.getDeclaredConstructors()) {
            seen.add(modifiers(made) + "LayeredPage" + types(made.getParameterTypes()));
        }
        for (Method method : LayeredPage.class.getDeclaredMethods()) {
            if (!Modifier.isPrivate(method.getModifiers())) {
                seen.add(modifiers(method) + method.getReturnType() + " " + method.getName()
                        + types(method.getParameterTypes()));
            }
        }
        check.due("the face is " + seen, seen.equals(FACE), true);
        check.due("NONE", LayeredPage.NONE, -1);
        check.due("final", Modifier.isFinal(LayeredPage.class.getModifiers()), true);
    }

    /** "No private method bears the name of a public one", nor does one of the classes inside. */
    private static void checkNames(Check check) {
        List<Method> inner = new ArrayList<>();
        Set<String> names = new TreeSet<>();
        for (Method method : LayeredPage.class.getDeclaredMethods()) {
            if (Modifier.isPublic(method.getModifiers())) {
                names.add(method.getName());
            } else {
                inner.add(method);
            }
        }
        for (Class<?> inside : LayeredPage.class.getDeclaredClasses()) {
            inner.addAll(List.of(inside.getDeclaredMethods()));
        }
        for (Method method : inner) {
            check.due(method + " has a name of the face", names.contains(method.getName()), false);
        }
    }

    private static String modifiers(Member member) {
        String text = Modifier.toString(member.getModifiers());
        return text.isEmpty() ? "" : text + " ";
    }

    private static String types(Class<?>[] types) {
        return Arrays.toString(types).replace('[', '(').replace(']', ')').replace(" ", "");
    }
}
