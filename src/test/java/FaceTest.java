import java.lang.reflect.Constructor;
import java.lang.reflect.Field;
import java.lang.reflect.Method;
import java.lang.reflect.Modifier;
import java.nio.file.Files;
import java.nio.file.Path;
import java.util.Set;
import java.util.TreeSet;
import java.util.regex.Matcher;
import java.util.regex.Pattern;

/** The face as the document tells it, and what LANGUAGE.md forbids in the source and can be seen by words. */
public final class FaceTest {
    private static final Path SOURCE = Path.of("src/main/java/StrawButts.java");
    private static final Path DOCUMENT = Path.of("../shared/DOC.md");
    private static final String[] FACE = {
        "feed(int a, int b, int c, int d, int e)", "end(int n)", "green()", "rule()", "force(int rule)",
        "ring(int ring, int what)", "archer(int archer, int what)", "wind(int shot)", "round()",
        "shoot(int archer, int ring)", "pull(int ring, int archer)", "breath(int shots)",
        "teach(int archer, int skill)", "undo()", "ahead(int archer, int n, int what)", "eased(int archer)",
        "allEased()", "down(int archer, int ring)", "bestAim(int archer, int what)",
        "row(int archer, int n, int what)", "hold(int archer)", "leastSkill(int archer, int n)",
        "set(int ring, int n, int what)", "given(int n, int what)", "skilled(int archer)", "ails(int archer)",
        "rests(int one, int other, int n, int what)", "pence(int much, int ring)",
        "note(int n, int archer, int place)", "ruled(int what)", "look(int n, int what)", "seed(int x)",
        "gusts(int m, int n, int p, int what)", "count(int what)", "image(int k)", "back(int k)"};

    public static void main(String[] args) throws Exception {
        document();
        face();
        insides();
        source();
        Check.finish();
    }

    /** The face written down here is the document's, where that lies at hand. */
    private static void document() throws Exception {
        if (!Files.exists(DOCUMENT)) {
            System.out.println(DOCUMENT + " is not there");
            return;
        }
        Set<String> told = new TreeSet<>();
        Matcher method = Pattern.compile("public int (\\w+\\([^)]*\\));").matcher(Files.readString(DOCUMENT));
        while (method.find()) {
            told.add(method.group(1));
        }
        Check.due("the document's face: " + told, 1, told.equals(Set.of(FACE)) ? 1 : 0);
    }

    private static void face() {
        Class<?> face = StrawButts.class;
        Check.due("NONE", -1, StrawButts.NONE);
        Check.due("public final", Modifier.PUBLIC | Modifier.FINAL, face.getModifiers());
        int methods = 0;
        for (Method m : face.getDeclaredMethods()) {
            if (!Modifier.isPrivate(m.getModifiers())) {
                methods++;
                Check.due(m + " is public, not static", Modifier.PUBLIC, m.getModifiers());
                Check.due(m + " answers an int", 1, m.getReturnType() == int.class ? 1 : 0);
            } else {
                Check.due(m + " has a name of its own", 1, namesNoFace(m.getName()) ? 1 : 0);
            }
        }
        Check.due("methods", FACE.length, methods);
        for (Field f : face.getDeclaredFields()) {
            boolean isNone = f.getName().equals("NONE");
            Check.due(f + " is private", isNone ? 0 : 1, Modifier.isPrivate(f.getModifiers()) ? 1 : 0);
        }
        Constructor<?>[] made = face.getDeclaredConstructors();
        Check.due("constructors", 1, made.length);
        Check.due("it is public", Modifier.PUBLIC, made[0].getModifiers());
    }

    private static boolean namesNoFace(String name) {
        for (String of : FACE) {
            if (of.startsWith(name + "(")) {
                return false;
            }
        }
        return true;
    }

    private static void insides() {
        Class<?>[] inside = StrawButts.class.getDeclaredClasses();
        Check.due("twelve classes at most", 1, inside.length < 12 ? 1 : 0);
        for (Class<?> c : inside) {
            Check.due(c + " is static", 1, Modifier.isStatic(c.getModifiers()) ? 1 : 0);
            int fields = 0;
            for (Field f : c.getDeclaredFields()) {
                boolean isStatic = Modifier.isStatic(f.getModifiers());
                fields += isStatic ? 0 : 1;
                Check.due(f + " is final if static", 1, !isStatic || Modifier.isFinal(f.getModifiers()) ? 1 : 0);
            }
            Check.due(c + " has twenty fields at most", 1, fields <= 20 ? 1 : 0);
            for (Method m : c.getDeclaredMethods()) {
                Check.due(m + " has a name of its own", 1, namesNoFace(m.getName()) ? 1 : 0);
                Check.due(m + " takes seven at most", 1, m.getParameterCount() <= 7 ? 1 : 0);
            }
        }
    }

    private static void source() throws Exception {
        String text = Files.readString(SOURCE).replaceAll("(?s)/\\*.*?\\*/", " ").replaceAll("//[^\n]*", " ");
        String[] forbidden = {"\\bthrow\\b", "\\btry\\b", "\\bcatch\\b", "\\bsynchronized\\b", "\\bassert\\b",
            "->", "::", "\\bRandom\\b", "\\bThread\\b", "\\bSystem\\.(?!arraycopy)", "\\bpackage\\b", "\\bprotected\\b",
            "Exact\\(", "\\bObject\\b", "\\bvar\\b"};
        for (String method : FACE) {
            Check.due("the source has " + method, 1, text.contains("    public int " + method + " {\n") ? 1 : 0);
        }
        for (String word : forbidden) {
            Matcher m = Pattern.compile(word).matcher(text);
            Check.due("the source has " + word, 0, m.find() ? 1 : 0);
        }
        Matcher imports = Pattern.compile("import ([^;]*);").matcher(text);
        while (imports.find()) {
            Check.due(imports.group(), 1, imports.group(1).equals("java.util.Arrays") ? 1 : 0);
        }
        Check.due("signs up to 127", 0, text.chars().filter(sign -> sign > 127).count());
    }
}
