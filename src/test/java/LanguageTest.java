import java.io.IOException;
import java.lang.reflect.Executable;
import java.lang.reflect.Field;
import java.lang.reflect.Method;
import java.lang.reflect.Modifier;
import java.nio.file.Files;
import java.nio.file.Path;
import java.util.Arrays;
import java.util.List;
import java.util.Set;
import java.util.TreeSet;
import java.util.regex.Matcher;
import java.util.regex.Pattern;
import java.util.stream.Collectors;

/** Holds the class against the document's face and the rules of LANGUAGE.md that a look can tell. */
public final class LanguageTest {
    private static final Set<String> FACE = Set.of("int ship()", "int rock(int)", "int hand(int,int,int)",
        "int type(int)", "int clear()", "int read()", "int feed(int)", "int watch()", "int undo()", "int of(int,int)",
        "int now(int)", "int then(int,int)", "int strikes()", "int peas(int,int,int)", "int canNot(int)",
        "int eat(int,int)", "int seen(int,int)", "int forget()", "int nod(int)", "int is(int)", "int look(int)",
        "int pulled(int)", "int meet(int,int,int)", "int odds(int,int)", "int voyages(int,int)", "long part(int)",
        "int image(int)", "int from(int)", "int status(int)", "int count(int)", "long digest()");
    private static final String[] FORBIDDEN = {"\\bthrows?\\b", "\\btry\\b", "\\bcatch\\b", "\\bsynchronized\\b",
        "\\bassert\\b", "\\bimport\\b", "\\bpackage\\b", "\\bprotected\\b", "->", "::", "@", "\\bstatic\\s*\\{",
        "\\bThread\\b", "\\bObject\\b", "\\bRandom\\b", "\\bSystem\\.(?!arraycopy\\b)", "\\bhashCode\\b", "\\btoString\\b",
        "\\b\\w+Exact\\b", "\\bvar\\b", "\\bdouble\\b", "\\bfloat\\b"};

    private static final Check check = new Check();

    public static void main(String[] args) throws IOException {
        face();
        for (Class<?> inside : SleepyHelm.class.getDeclaredClasses()) {
            inside(inside);
        }
        check.holds("at most twelve classes", SleepyHelm.class.getDeclaredClasses().length + 1 <= 12);
        check.holds("the source's path is told", args.length == 1);
        source(Files.readString(Path.of(args[0])));
        check.end();
    }

    private static void face() {
        Class<?> face = SleepyHelm.class;
        check.holds("the class is public and final", face.getModifiers() == (Modifier.PUBLIC | Modifier.FINAL));
        check.due("constructors", face.getDeclaredConstructors().length, 1);
        check.due("public constructors", face.getConstructors().length, 1);
        Set<String> found = new TreeSet<>();
        Set<String> names = new TreeSet<>();
        for (Method m : face.getDeclaredMethods()) {
            if (Modifier.isPublic(m.getModifiers())) {
                String takes = Arrays.stream(m.getParameterTypes()).map(Class::getName).collect(Collectors.joining(","));
                found.add(m.getReturnType().getName() + " " + m.getName() + "(" + takes + ")");
                names.add(m.getName());
            }
        }
        check.holds("public methods are " + found, found.equals(FACE));
        for (Method m : face.getDeclaredMethods()) {
            boolean isPrivate = Modifier.isPrivate(m.getModifiers());
            check.holds(m + " is private or of the face", isPrivate != Modifier.isPublic(m.getModifiers()));
            check.holds(m + " has no name of the face", !isPrivate || !names.contains(m.getName()));
        }
        List<String> constants = List.of("NONE", "BAD", "NO", "FULL");
        for (Field f : face.getDeclaredFields()) {
            boolean isFace = constants.contains(f.getName());
            check.holds(f + " is private or of the face",
                isFace ? Modifier.isPublic(f.getModifiers()) : Modifier.isPrivate(f.getModifiers()));
        }
        sizes(face);
    }

    private static void inside(Class<?> inside) {
        check.holds(inside + " is static", Modifier.isStatic(inside.getModifiers()));
        check.holds(inside + " is not public", !Modifier.isPublic(inside.getModifiers()));
        sizes(inside);
    }

    private static void sizes(Class<?> c) {
        int held = 0;
        for (Field f : c.getDeclaredFields()) {
            if (Modifier.isStatic(f.getModifiers())) {
                check.holds(f + " is final", Modifier.isFinal(f.getModifiers()));
            } else {
                held++;
            }
        }
        check.holds(c + " has at most twenty fields", held <= 20);
        for (Executable e : c.getDeclaredMethods()) {
            check.holds(e + " takes at most seven", e.getParameterCount() <= 7);
        }
    }

    private static void source(String text) {
        String bare = text.replaceAll("(?s)/\\*.*?\\*/", "").replaceAll("//[^\n]*", "");
        bare = bare.replaceAll("\"[^\"\n]*\"", "\"\"");
        for (String forbidden : FORBIDDEN) {
            Matcher matcher = Pattern.compile(forbidden).matcher(bare);
            check.holds("none of " + forbidden, !matcher.find());
        }
        check.holds("signs 1 to 127 alone", text.chars().allMatch(c -> c > 0 && c < 128));
        Matcher method = Pattern.compile("(?m)^( {4}| {8})[^ /*}].*\\) \\{$").matcher(text);
        while (method.find()) {
            int end = text.indexOf("\n" + method.group(1) + "}", method.start());
            long lines = text.substring(method.start(), end).lines().count() + 1;
            check.holds(method.group().trim() + " is short", lines <= 60);
        }
    }
}
