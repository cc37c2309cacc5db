import java.lang.reflect.Method;
import java.lang.reflect.Modifier;
import java.nio.charset.StandardCharsets;
import java.nio.file.Files;
import java.nio.file.Path;
import java.util.ArrayList;
import java.util.Arrays;
import java.util.List;
import java.util.Set;
import java.util.TreeSet;
import java.util.regex.Matcher;
import java.util.regex.Pattern;

/** Rules of LANGUAGE.md that can be seen in the text of the program; run from the project's folder. */
public final class LanguageTest {
    private static final String[] RULED_OUT = {
        "->", "::", "\\bimport\\b", "\\bpackage\\b", "\\btry\\b", "\\bcatch\\b", "\\bfinally\\b", "\\bsynchronized\\b",
        "\\bassert\\b", "\\bwhile\\b", "\\w+Exact\\b", "\\bSystem\\b", "\\bObject\\b", "\\binstanceof\\b",
        "\\bprotected\\b", "\\bequals\\b", "\\bhashCode\\b", "\\btoString\\b", "\\bdouble\\b", "\\bfloat\\b",
        "\\bstatic\\s*\\{", "@\\w+", "[^\\x00-\\x7F]",
    };

    public static void main(String[] args) throws Exception {
        String text = Files.readString(Path.of("src/main/java/Saddletree.java"), StandardCharsets.ISO_8859_1);
        String code = text.replaceAll("/\\*(?s:.*?)\\*/", "").replaceAll("//.*", "").replaceAll("\"[^\"]*\"", "\"\"");
        for (String ruledOut : RULED_OUT) {
            Matcher found = Pattern.compile(ruledOut).matcher(code);
            Due.same("the program with " + ruledOut, found.find() ? found.group() : "none", "none");
        }
        Matcher thrown = Pattern.compile("throw(?! new (IndexOutOfBounds|IllegalArgument|IllegalState)Exception\\()\\b(?!s)")
                .matcher(code);
        Due.same("another exception", thrown.find(), false);
        Matcher state = Pattern.compile("\\bstatic (?!final\\b)[\\w\\[\\]]+ \\w+\\s*[=;,]").matcher(code);
        Due.same("static state", state.find(), false);
        methodsAreShort(text);
        classesAreSmall();
        Due.end();
    }

    private static void classesAreSmall() {
        Set<String> face = new TreeSet<>();
        for (Method method : Saddletree.class.getDeclaredMethods()) {
            if (Modifier.isPublic(method.getModifiers())) {
                face.add(method.getName());
            }
        }
        List<Class<?>> classes = new ArrayList<>(List.of(Saddletree.class.getDeclaredClasses()));
        for (Class<?> inside : classes) {
            int modifiers = inside.getModifiers();
            Due.same(inside + " is static", Modifier.isStatic(modifiers), true);
            Due.same(inside + " is hidden", Modifier.isPublic(modifiers) || Modifier.isProtected(modifiers), false);
        }
        classes.add(Saddletree.class);
        Due.same("some twelve classes", classes.size() <= 12, true);
        for (Class<?> one : classes) {
            long fields = Arrays.stream(one.getDeclaredFields()).filter(f -> !Modifier.isStatic(f.getModifiers())).count();
            Due.same("some twenty fields of " + one, fields <= 20, true);
            for (Method method : one.getDeclaredMethods()) {
                boolean isFace = one == Saddletree.class && Modifier.isPublic(method.getModifiers());
                Due.same("at most seven parameters of " + method, method.getParameterCount() <= 7, true);
                Due.same("a name of the face for " + method, !isFace && face.contains(method.getName()), false);
            }
        }
    }

    private static void methodsAreShort(String text) {
        String[] lines = text.split("\n");
        int start = -1;
        for (int i = 0; i < lines.length; i++) {
            boolean opens = lines[i].matches(" {4,8}[^ }*/].*\\{") && !lines[i].contains(" class ");
            start = opens && lines[i].contains("(") ? i : start;
            if (lines[i].matches(" {4,8}\\}") && start >= 0) {
                Due.same("a method of some sixty lines, from line " + (start + 1), i - start <= 60, true);
                start = -1;
            }
        }
    }
}
