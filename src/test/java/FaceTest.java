import java.lang.reflect.Constructor;
import java.lang.reflect.Field;
import java.lang.reflect.Method;
import java.lang.reflect.Modifier;
import java.nio.file.Files;
import java.nio.file.Path;
import java.util.Set;
import java.util.TreeSet;
import java.util.regex.Matcher;
import java.util.regex.Pattern;

/** The face as the document tells it, and what LANGUAGE.md forbids in the source and can be seen by words. */
public final class FaceTest {
    private static final Path SOURCE = Path.of("src/main/java/StrawButts.java");
    private static final String[] FACE = {
        "feed/5", "end/1", "green/0", "rule/0", "force/1", "ring/2", "archer/2", "wind/1", "round/0", "shoot/2",
        "pull/2", "breath/1", "teach/2", "undo/0", "ahead/3", "eased/1", "allEased/0", "down/2", "bestAim/2", "row/3",
        "hold/1", "leastSkill/2", "set/3", "given/2", "skilled/1", "ails/1", "rests/4", "pence/2", "note/3", "ruled/1",
        "look/2", "seed/1", "gusts/4", "count/1", "image/1", "back/1"};

    public static void main(String[] args) throws Exception {
        face();
        insides();
        source();
        Check.finish();
    }

    private static void face() {
        Class<?> face = StrawButts.class;
        Check.due("NONE", -1, StrawButts.NONE);
        Check.due("public final", Modifier.PUBLIC | Modifier.FINAL, face.getModifiers());
        Set<String> due = new TreeSet<>(Set.of(FACE));
        Set<String> got = new TreeSet<>();
        for (Method m : face.getDeclaredMethods()) {
            if (!Modifier.isPrivate(m.getModifiers())) {
                got.add(m.getName() + "/" + m.getParameterCount());
                Check.due(m + " is public, not static", Modifier.PUBLIC, m.getModifiers());
                Check.due(m + " answers an int", 1, m.getReturnType() == int.class ? 1 : 0);
            } else {
                Check.due(m + " has a name of its own", 1, namesNoFace(m.getName()) ? 1 : 0);
            }
        }
        Check.due("methods: " + got, 1, due.equals(got) ? 1 : 0);
        for (Field f : face.getDeclaredFields()) {
            boolean isNone = f.getName().equals("NONE");
            Check.due(f + " is private", isNone ? 0 : 1, Modifier.isPrivate(f.getModifiers()) ? 1 : 0);
        }
        Constructor<?>[] made = face.getDeclaredConstructors();
        Check.due("constructors", 1, made.length);
        Check.due("it is public", Modifier.PUBLIC, made[0].getModifiers());
    }

    private static boolean namesNoFace(String name) {
        for (String of : FACE) {
            if (of.startsWith(name + "/")) {
                return false;
            }
        }
        return true;
    }

    private static void insides() {
        Class<?>[] inside = StrawButts.class.getDeclaredClasses();
        Check.due("twelve classes at most", 1, inside.length < 12 ? 1 : 0);
        for (Class<?> c : inside) {
            Check.due(c + " is static", 1, Modifier.isStatic(c.getModifiers()) ? 1 : 0);
            int fields = 0;
            for (Field f : c.getDeclaredFields()) {
                boolean isStatic = Modifier.isStatic(f.getModifiers());
                fields += isStatic ? 0 : 1;
                Check.due(f + " is final if static", 1, !isStatic || Modifier.isFinal(f.getModifiers()) ? 1 : 0);
            }
            Check.due(c + " has twenty fields at most", 1, fields <= 20 ? 1 : 0);
            for (Method m : c.getDeclaredMethods()) {
                Check.due(m + " has a name of its own", 1, namesNoFace(m.getName()) ? 1 : 0);
                Check.due(m + " takes seven at most", 1, m.getParameterCount() <= 7 ? 1 : 0);
            }
        }
    }

    private static void source() throws Exception {
        String text = Files.readString(SOURCE).replaceAll("(?s)/\\*.*?\\*/", " ").replaceAll("//[^\n]*", " ");
        String[] forbidden = {"\\bthrow\\b", "\\btry\\b", "\\bcatch\\b", "\\bsynchronized\\b", "\\bassert\\b",
            "->", "::", "\\bRandom\\b", "\\bThread\\b", "\\bSystem\\.(?!arraycopy)", "\\bpackage\\b", "\\bprotected\\b",
            "Exact\\(", "\\bObject\\b", "\\bvar\\b"};
        for (String word : forbidden) {
            Matcher m = Pattern.compile(word).matcher(text);
            Check.due("the source has " + word, 0, m.find() ? 1 : 0);
        }
        Matcher imports = Pattern.compile("import ([^;]*);").matcher(text);
        while (imports.find()) {
            Check.due(imports.group(), 1, imports.group(1).equals("java.util.Arrays") ? 1 : 0);
        }
        Check.due("signs up to 127", 0, text.chars().filter(sign -> sign > 127).count());
    }
}
