import java.io.IOException;
import java.lang.reflect.Constructor;
import java.lang.reflect.Field;
import java.lang.reflect.Method;
import java.lang.reflect.Modifier;
import java.nio.file.Files;
import java.nio.file.Path;
import java.util.List;
import java.util.Set;
import java.util.TreeMap;
import java.util.TreeSet;
import java.util.regex.Matcher;
import java.util.regex.Pattern;

/** The public face as the document prints it, and what LANGUAGE.md lets a source hold. */
public final class FaceTests {
    private static final String[] FACE = {"feed 5", "end 1", "town 0", "rule 0", "force 1", "lure 2", "walker 2", "ways 1", "step 0", "set 2",
        "move 2", "bait 2", "calm 2", "undo 0", "ahead 3", "had 2", "first 1", "far 1", "safe 1", "stuck 1", "best 3", "kind 3", "cover 1",
        "hearts 1", "waries 1", "rests 4", "ring 1", "pence 2", "note 3", "ruled 1", "look 2", "seed 1", "nights 4", "count 1", "image 1",
        "back 1"};

    public static void main(String[] args) throws IOException {
        face();
        insides();
        source(Files.readString(Path.of("src/main/java/LureTown.java")));
        Due.leave();
    }

    private static void face() {
        Due.is("NONE", LureTown.NONE, -1);
        Due.is("public and final", LureTown.class.getModifiers() & (Modifier.PUBLIC | Modifier.FINAL), Modifier.PUBLIC | Modifier.FINAL);
        TreeMap<String, Integer> methods = new TreeMap<>();
        for (Method m : LureTown.class.getDeclaredMethods()) {
            if (!m.isSynthetic() && !Modifier.isPrivate(m.getModifiers())) {
                Due.is(m + " is public", Modifier.isPublic(m.getModifiers()) ? 1 : 0, 1);
                methods.merge(m.getName() + " " + m.getParameterCount(), 1, Integer::sum);
                for (Class<?> type : m.getParameterTypes()) {
                    Due.is(m + " takes ints", type == int.class ? 1 : 0, 1);
                }
                Due.is(m + " answers an int", m.getReturnType() == int.class ? 1 : 0, 1);
            }
        }
        for (String name : FACE) {
            Due.is("there is " + name, methods.containsKey(name) ? 1 : 0, 1);
        }
        Due.is("no more methods", methods.size(), FACE.length);
        for (Field f : LureTown.class.getDeclaredFields()) {
            Due.is(f + " is hidden", Modifier.isPrivate(f.getModifiers()) || f.getName().equals("NONE") ? 1 : 0, 1);
        }
        Constructor<?>[] made = LureTown.class.getDeclaredConstructors();
        Due.is("one constructor", made.length, 1);
        Due.is("without parameters", made[0].getParameterCount(), 0);
    }

    private static void insides() {
        Set<String> faces = new TreeSet<>();
        for (String name : FACE) {
            faces.add(name.substring(0, name.indexOf(' ')));
        }
        Class<?>[] classes = LureTown.class.getDeclaredClasses();
        Due.is("classes", classes.length <= 12 ? 1 : 0, 1);
        for (Class<?> c : classes) {
            Due.is(c + " is static", Modifier.isStatic(c.getModifiers()) ? 1 : 0, 1);
            for (Method m : c.getDeclaredMethods()) {
                Due.is(m + " bears no name of the face", faces.contains(m.getName()) ? 1 : 0, 0);
                Due.is(m + " takes few", m.getParameterCount() <= 7 ? 1 : 0, 1);
            }
        }
        for (Class<?> c : List.of(LureTown.class)) {
            for (Method m : c.getDeclaredMethods()) {
                if (Modifier.isPrivate(m.getModifiers())) {
                    Due.is(m + " bears no name of the face", faces.contains(m.getName()) ? 1 : 0, 0);
                }
            }
        }
    }

    private static void source(String text) {
        String bare = text.replaceAll("(?s)/\\*.*?\\*/", "").replaceAll("//[^\n]*", "").replaceAll("\"[^\"\n]*\"", "\"\"");
        for (String word : new String[] {"throw", "try", "catch", "synchronized", "assert", "import", "package", "null", "->", "::", "Exact",
            "System.out", "new Object", "protected", "\" +", "+ \"", "random", "Thread", "native", "finally"}) {
            Matcher m = Pattern.compile((Character.isLetter(word.charAt(0)) ? "\\b" : "") + Pattern.quote(word)).matcher(bare);
            Due.is("the source holds '" + word + "'", m.find() ? 1 : 0, 0);
        }
        for (int i = 0; i < text.length(); i++) {
            if (text.charAt(i) > 126) {
                Due.is("a sign at " + i, text.charAt(i), 0);
            }
        }
    }
}
