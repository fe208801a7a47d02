import java.io.IOException;
import java.lang.reflect.Constructor;
import java.lang.reflect.Field;
import java.lang.reflect.Member;
import java.lang.reflect.Method;
import java.lang.reflect.Modifier;
import java.nio.file.Files;
import java.nio.file.Path;
import java.util.Arrays;
import java.util.Set;
import java.util.TreeSet;
import java.util.regex.Matcher;
import java.util.regex.Pattern;

/** The class has the face of the document and no more, and its file keeps to what can be seen of LANGUAGE.md. */
final class FaceTest {
    private static final Path SOURCE = Path.of("src/main/java/LayeredPage.java");

    private static final Set<String> FACE = Set.of(
            "public static final int NONE",
            "public LayeredPage()",
            "public int shape(long,int,int,int)",
            "public int place(int,int,int)",
            "public boolean paint(int,int,long)",
            "public void clear()",
            "public int encode(int)",
            "public int length()",
            "public int octet(int)",
            "public boolean alter(int,int)",
            "public boolean cut(int)",
            "public int decode()",
            "public int pixel(int,int)",
            "public boolean inked(int,int)",
            "public int cell(int,int,int)",
            "public int coefficient(int,int,int)",
            "public int shapes()",
            "public long glyph(int)",
            "public int placings()");

    private static final String[] RULED_OUT = {
        "\\bthrow\\b", "\\btry\\b", "\\bcatch\\b", "\\bsynchronized\\b", "\\bassert\\b", "->", "::",
        "\\bSystem\\.(?!arraycopy)", "\\bThread\\b", "\\bRandom\\b", "\\bpackage\\b", "\\bstatic\\s*\\{", "Exact\\("
    };

    public static void main(String[] args) throws IOException {
        Check check = new Check();
        checkFace(check);
        checkSource(check);
        check.end();
    }

    private static void checkFace(Check check) {
        Set<String> seen = new TreeSet<>();
        for (Field field : LayeredPage.class.getDeclaredFields()) {
            if (!Modifier.isPrivate(field.getModifiers())) {
                seen.add(modifiers(field) + field.getType() + " " + field.getName());
            }
        }
        for (Constructor<?> made : LayeredPage.class.getDeclaredConstructors()) {
            seen.add(modifiers(made) + "LayeredPage" + types(made.getParameterTypes()));
        }
        Set<String> methods = new TreeSet<>();
        for (Method method : LayeredPage.class.getDeclaredMethods()) {
            if (!Modifier.isPrivate(method.getModifiers())) {
                seen.add(modifiers(method) + method.getReturnType() + " " + method.getName()
                        + types(method.getParameterTypes()));
                methods.add(method.getName());
            }
        }
        check.due("the face is " + seen, seen.equals(FACE), true);
        check.due("NONE", LayeredPage.NONE, -1);
        check.due("final", Modifier.isFinal(LayeredPage.class.getModifiers()), true);
        for (Class<?> inside : LayeredPage.class.getDeclaredClasses()) {
            check.due(inside + " is static", Modifier.isStatic(inside.getModifiers()), true);
            check.due(inside + " is public", Modifier.isPublic(inside.getModifiers()), false);
            for (Method method : inside.getDeclaredMethods()) {
                check.due(method + " has a name of the face", methods.contains(method.getName()), false);
            }
        }
    }

    private static String modifiers(Member member) {
        String text = Modifier.toString(member.getModifiers());
        return text.isEmpty() ? "" : text + " ";
    }

    private static String types(Class<?>[] types) {
        return Arrays.toString(types).replace('[', '(').replace(']', ')').replace(" ", "");
    }

    private static void checkSource(Check check) throws IOException {
        String code = Files.readString(SOURCE).replaceAll("(?s)/\\*.*?\\*/", "").replaceAll("//[^\n]*", "");
        for (String pattern : RULED_OUT) {
            check.due(pattern + " in the source", Pattern.compile(pattern).matcher(code).find(), false);
        }
        Matcher imports = Pattern.compile("import ([^;]*);").matcher(code);
        while (imports.find()) {
            check.due("import " + imports.group(1), imports.group(1).equals("java.util.Arrays"), true);
        }
    }
}
