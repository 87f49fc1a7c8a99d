import java.io.IOException;
import java.lang.reflect.Constructor;
import java.lang.reflect.Field;
import java.lang.reflect.Method;
import java.lang.reflect.Modifier;
import java.nio.charset.StandardCharsets;
import java.nio.file.Files;
import java.nio.file.Path;
import java.util.ArrayList;
import java.util.Arrays;
import java.util.HashSet;
import java.util.List;
import java.util.Set;
import java.util.TreeSet;
import java.util.regex.Matcher;
import java.util.regex.Pattern;

/** The rules of LANGUAGE.md, as far as they are seen from the source and from the compiled class. */
final class LanguageTest {
    private static final Set<String> FACE = new HashSet<>(Arrays.asList(
        "int thing(int,int)", "int level(int,int,int)", "int meaning(int)", "int want(int,int,int)", "int put(int,int)",
        "int value(int,int,int,int)", "int loud(int,int,int)", "int likeness(int,int,int)", "int taken(int,int,int,int,int)",
        "int most(int,int,int,int)", "int may(int,int,int,int)", "int best(int)", "int truer(int,int,int)", "int serves(int,int)",
        "int cupboard(int)", "int words()", "int beast(int)", "int type(long,int)", "int clear()", "int fault()", "int places()",
        "int hidden(int,int)", "int unheard()", "int kept()", "int order(int)", "int hands(int)", "int lag(int,int,int,int,int)",
        "int mended(int,int,int,int,int,int)", "int steady(int,int,int,int,int)", "int house()", "int habit(int,int,int)",
        "int see(int)", "int forget()", "int whose(int)", "int sign(int)", "int limb(int,int)", "int image(int)", "int from(int)",
        "int status(int)", "int count(int)", "long digest()"));
    private static final Set<String> LIBRARY = new HashSet<>(Arrays.asList("Math.max", "Math.min", "Math.abs", "Integer.bitCount"));

    private LanguageTest() {
    }

    static void run(String path) throws IOException {
        face();
        classesInside();
        String source = Files.readString(Path.of(path), StandardCharsets.ISO_8859_1);
        Due.holds("the source has signs 1 to 127 alone", source.chars().allMatch(c -> c > 0 && c < 128));
        String bare = source.replaceAll("(?s)/\\*.*?\\*/", " ").replaceAll("//[^\n]*", " ").replaceAll("'[^']+'", "0");
        words(bare);
        methods(bare);
    }

    private static void face() {
        Set<String> shown = new HashSet<>();
        for (Method m : FilmNoises.class.getDeclaredMethods()) {
            int kind = m.getModifiers();
            if (Modifier.isPublic(kind)) {
                Due.holds(m.getName() + " is no static one", !Modifier.isStatic(kind));
                shown.add(m.getReturnType() + " " + m.getName()
                    + Arrays.toString(m.getParameterTypes()).replace(" ", "").replace('[', '(').replace(']', ')'));
            } else {
                Due.holds(m.getName() + " is private", Modifier.isPrivate(kind));
            }
        }
        Due.same("the face", new TreeSet<>(shown).toString(), new TreeSet<>(FACE).toString());
        for (Field f : FilmNoises.class.getDeclaredFields()) {
            boolean constant = Arrays.asList("NONE", "BAD", "NO", "FULL").contains(f.getName());
            Due.holds("field " + f.getName(), constant ? Modifier.isPublic(f.getModifiers()) : Modifier.isPrivate(f.getModifiers()));
        }
        Constructor<?>[] all = FilmNoises.class.getDeclaredConstructors();
        Due.holds("one constructor", all.length == 1 && all[0].getParameterCount() == 0 && Modifier.isPublic(all[0].getModifiers()));
        Due.holds("a final class", Modifier.isFinal(FilmNoises.class.getModifiers()));
    }

    private static void classesInside() {
        List<Class<?>> all = new ArrayList<>(Arrays.asList(FilmNoises.class.getDeclaredClasses()));
        Due.holds("some twelve classes", all.size() < 12);
        for (Class<?> inside : all) {
            int kind = inside.getModifiers();
            Due.holds(inside + " is private and static", Modifier.isPrivate(kind) && Modifier.isStatic(kind));
            Due.holds(inside + " has no other inside", inside.getDeclaredClasses().length == 0);
            for (Method m : inside.getDeclaredMethods()) {
                Due.holds(m + " bears no public name", FACE.stream().noneMatch(f -> f.contains(" " + m.getName() + "(")));
            }
        }
        all.add(FilmNoises.class);
        for (Class<?> one : all) {
            int fields = 0;
            for (Field f : one.getDeclaredFields()) {
                boolean fixed = Modifier.isStatic(f.getModifiers());
                fields += fixed ? 0 : 1;
                Due.holds(f + " is a constant, if static", !fixed || Modifier.isFinal(f.getModifiers()));
            }
            Due.holds(one + " has some twenty fields", fields <= 20);
            for (Method m : one.getDeclaredMethods()) {
                Due.holds(m + " takes seven at most", m.getParameterCount() <= 7);
            }
        }
    }

    private static void words(String bare) {
        Matcher no = Pattern.compile("\\b(throws?|try|catch|finally|synchronized|assert|import|package|double|float|volatile|"
            + "native|transient|protected|instanceof|abstract|interface|extends|implements|String|System)\\b|->|::|@").matcher(bare);
        Due.same("a word that the language or this program leaves out", no.find() ? no.group() : "none", "none");
        Matcher library = Pattern.compile("\\b(Math|Integer|Long|Arrays|List|Character|Boolean)\\.\\w+").matcher(bare);
        while (library.find()) {
            Due.holds("library: " + library.group(), LIBRARY.contains(library.group()));
        }
        Due.holds("no while, each loop counts", !Pattern.compile("\\bwhile\\b").matcher(bare).find());
        for (String line : bare.split("\n")) {
            Due.holds("made once with the object: " + line.strip(), !line.contains("new ") || line.contains("final "));
        }
        Matcher index = Pattern.compile("\\w\\[[^\\]]").matcher(bare);
        int found = 0;
        while (index.find()) {
            found++;
        }
        // Twelve rows made in field lines and the three functions that look at an index.
        Due.holds("indices are used in the rows' own functions alone: " + found, found == rows(bare) + 4);
    }

    private static int rows(String bare) {
        int rows = 0;
        Matcher made = Pattern.compile("new int\\[").matcher(bare);
        while (made.find()) {
            rows++;
        }
        return rows;
    }

    /** Some sixty lines a method. */
    private static void methods(String bare) {
        int start = -1;
        String[] lines = bare.split("\n");
        for (int i = 0; i < lines.length; i++) {
            boolean method = lines[i].matches(" {4,8}\\S.*\\) \\{");
            boolean end = lines[i].matches(" {4}(?: {4})?\\}");
            if (method) {
                start = i;
            } else if (end && start >= 0) {
                Due.holds("a short method: " + lines[start].strip(), i - start < 60);
                start = -1;
            }
        }
    }
}
