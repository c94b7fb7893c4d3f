import java.io.IOException;
import java.lang.reflect.Constructor;
import java.lang.reflect.Field;
import java.lang.reflect.Method;
import java.lang.reflect.Modifier;
import java.nio.file.Files;
import java.nio.file.Path;
import java.util.Arrays;
import java.util.Set;
import java.util.TreeSet;
import java.util.regex.Matcher;
import java.util.regex.Pattern;

/** The public face, and those rules of LANGUAGE.md that can be seen from outside or word by word. */
public final class FaceTest {
    private static final Due D = new Due("FaceTest");
    private static final Path MAIN = Path.of("src/main/java/FirstCart.java");
    private static final String[] FACE = {
        "int row(int,int,int)", "int set(int,int,int)", "int copy(int,int,int,int,int)", "int drop(int)",
        "int feed(long,int)", "int pass()", "int fault()", "int hour()", "int waits(int,int)", "int undo()",
        "int cart(int,int)", "int day(int,int)", "int judge(int,int)", "int best(int,int)", "int rest(int)",
        "int thought(int,int)", "int two(int,int,int,int)", "int shares(int,int)", "int size()",
        "int book(int,int)", "int ford(int,int,int,int)", "int goat(int,int)", "int image(int)",
        "int restore(int)", "int kind(int)", "int as(int,int)", "int ask(int,int)", "int trace(int)",
        "int count(int)", "int status()"};

    public static void main(String[] args) throws IOException {
        members();
        nested();
        words();
        D.end();
    }

    private static void is(String what, boolean holds) {
        D.due(what, holds ? 1 : 0, 1);
    }

    private static void members() {
        is("public and final", Modifier.isPublic(FirstCart.class.getModifiers()) && Modifier.isFinal(FirstCart.class.getModifiers()));
        Set<String> face = new TreeSet<>(Arrays.asList(FACE));
        Set<String> found = new TreeSet<>();
        Set<String> names = new TreeSet<>();
        for (Method m : FirstCart.class.getDeclaredMethods()) {
            if (Modifier.isPublic(m.getModifiers())) {
                StringBuilder types = new StringBuilder();
                for (Class<?> t : m.getParameterTypes()) {
                    types.append(types.length() == 0 ? "" : ",").append(t.getName());
                }
                found.add(m.getReturnType() + " " + m.getName() + "(" + types + ")");
                names.add(m.getName());
                is(m + " is not static", !Modifier.isStatic(m.getModifiers()));
            }
        }
        is("the methods of the face, no others: " + found, found.equals(face));
        for (Method m : FirstCart.class.getDeclaredMethods()) {
            if (!Modifier.isPublic(m.getModifiers())) {
                is(m + " is private", Modifier.isPrivate(m.getModifiers()));
                is(m + " has a name of its own", !names.contains(m.getName()));
            }
        }
        for (Constructor<?> c : FirstCart.class.getDeclaredConstructors()) {
            is(c + " is that of the face", Modifier.isPublic(c.getModifiers()) && c.getParameterCount() == 0);
        }
        for (Field f : FirstCart.class.getDeclaredFields()) {
            boolean isFace = Set.of("NONE", "BAD", "STATE", "FULL").contains(f.getName());
            is(f + " is of the face, or private", isFace ? Modifier.isPublic(f.getModifiers()) : Modifier.isPrivate(f.getModifiers()));
            is(f + " is final, if static", Modifier.isFinal(f.getModifiers()) || !Modifier.isStatic(f.getModifiers()));
        }
        D.due("NONE", FirstCart.NONE, -1000000);
        D.due("BAD", FirstCart.BAD, -1000001);
        D.due("STATE", FirstCart.STATE, -1000002);
        D.due("FULL", FirstCart.FULL, -1000003);
    }

    private static void nested() {
        Class<?>[] inside = FirstCart.class.getDeclaredClasses();
        is("some twelve classes at most", inside.length <= 11);
        for (Class<?> c : inside) {
            is(c + " is static", Modifier.isStatic(c.getModifiers()));
            is(c + " is not for others", !Modifier.isPublic(c.getModifiers()) && !Modifier.isProtected(c.getModifiers()));
            is(c + " has some twenty fields at most", c.getDeclaredFields().length <= 24);
            for (Method m : c.getDeclaredMethods()) {
                is(m + " takes seven at most", m.getParameterCount() <= 7);
            }
        }
    }

    private static void words() throws IOException {
        String text = Files.readString(MAIN);
        String code = text.replaceAll("(?s)/\\*.*?\\*/", " ").replaceAll("//[^\n]*", " ");
        Matcher m = Pattern.compile("\\b(throw|throws|try|catch|finally|synchronized|assert|hashCode|toString|Object|\\w+Exact|package)\\b|->|::")
            .matcher(code);
        is("no word that the rules leave out" + (m.find() ? ": " + m.group() : ""), m.reset().results().count() == 0);
        Matcher imports = Pattern.compile("import\\s+([\\w.*]+)").matcher(code);
        while (imports.find()) {
            is("import of " + imports.group(1), Set.of("java.util.Arrays", "java.util.ArrayList", "java.util.List").contains(imports.group(1)));
        }
        is("signs 10 and 32 to 126 alone", text.chars().allMatch(c -> c == 10 || c >= 32 && c <= 126));
    }
}
