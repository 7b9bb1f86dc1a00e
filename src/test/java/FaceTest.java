import java.lang.reflect.Constructor;
import java.lang.reflect.Field;
import java.lang.reflect.Member;
import java.lang.reflect.Method;
import java.lang.reflect.Modifier;
import java.nio.file.Files;
import java.nio.file.Path;
import java.util.ArrayList;
import java.util.Collections;
import java.util.List;
import java.util.TreeSet;

/** The class has the document's face, as ../shared/DOC.md writes it, and nothing besides (LANGUAGE.md, rule 1). */
public final class FaceTest {
    public static void main(String[] args) throws Exception {
        Due.same(new TreeSet<>(written()), new TreeSet<>(built()));
        Due.same(true, Modifier.isFinal(Graphline.class.getModifiers()));
        hidden();
        Due.end();
    }

    /** The document's lines, without names of arguments, with the exceptions sorted. */
    private static List<String> written() throws Exception {
        List<String> out = new ArrayList<>();
        boolean isFace = false;
        for (String line : Files.readAllLines(Path.of("../shared/DOC.md"))) {
            if (line.startsWith("```")) {
                isFace = !isFace && out.isEmpty();
            } else if (isFace && line.startsWith("    public ")) {
                out.add(plain(line.trim().replace(";", "").substring("public ".length())));
            }
        }
        return out;
    }

    private static String plain(String line) {
        int open = line.indexOf('(');
        int close = line.indexOf(')');
        StringBuilder types = new StringBuilder();
        for (String argument : line.substring(open + 1, close).split(",")) {
            if (!argument.isBlank()) {
                types.append(argument.trim().split(" ")[0]).append(' ');
            }
        }
        List<String> thrown = new ArrayList<>();
        String rest = line.substring(close + 1).replace(" throws ", "");
        for (String name : rest.split(",")) {
            if (!name.isBlank()) {
                thrown.add(name.trim());
            }
        }
        Collections.sort(thrown);
        return line.substring(0, open) + "(" + types + ")" + thrown;
    }

    private static List<String> built() {
        List<String> out = new ArrayList<>();
        for (Constructor<?> it : Graphline.class.getDeclaredConstructors()) {
            out.add("Graphline(" + types(it.getParameterTypes()) + ")" + thrown(it.getExceptionTypes()));
        }
        for (Method it : Graphline.class.getDeclaredMethods()) {
            if (Modifier.isPublic(it.getModifiers())) {
                out.add(it.getReturnType().getSimpleName() + " " + it.getName()
                    + "(" + types(it.getParameterTypes()) + ")" + thrown(it.getExceptionTypes()));
            }
        }
        return out;
    }

    private static String types(Class<?>[] types) {
        StringBuilder out = new StringBuilder();
        for (Class<?> type : types) {
            out.append(type.getSimpleName()).append(' ');
        }
        return out.toString();
    }

    private static List<String> thrown(Class<?>[] types) {
        List<String> out = new ArrayList<>();
        for (Class<?> type : types) {
            out.add(type.getSimpleName());
        }
        Collections.sort(out);
        return out;
    }

    private static void hidden() {
        TreeSet<String> faceNames = new TreeSet<>();
        for (Method it : Graphline.class.getDeclaredMethods()) {
            if (Modifier.isPublic(it.getModifiers())) {
                faceNames.add(it.getName());
            }
        }
        for (Method it : Graphline.class.getDeclaredMethods()) {
            if (!Modifier.isPublic(it.getModifiers())) {
                Due.same(it + " is private", hiddenOrNot(it));
                Due.same(it + ": false", it + ": " + faceNames.contains(it.getName()));
            }
        }
        for (Field it : Graphline.class.getDeclaredFields()) {
            Due.same(it + " is private", hiddenOrNot(it));
        }
        for (Class<?> it : Graphline.class.getDeclaredClasses()) {
            Due.same(false, Modifier.isPublic(it.getModifiers()) || Modifier.isProtected(it.getModifiers()));
            Due.same(true, Modifier.isStatic(it.getModifiers()));
        }
    }

    private static String hiddenOrNot(Member it) {
        return it + (Modifier.isPrivate(it.getModifiers()) ? " is private" : " is seen from outside");
    }
}
