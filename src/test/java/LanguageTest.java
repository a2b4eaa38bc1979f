import java.io.IOException;
import java.lang.reflect.Constructor;
import java.lang.reflect.Field;
import java.lang.reflect.Member;
import java.lang.reflect.Method;
import java.lang.reflect.Modifier;
import java.nio.file.Files;
import java.nio.file.Path;
import java.util.Set;
import java.util.TreeSet;
import java.util.regex.Matcher;
import java.util.regex.Pattern;

/** The face of the document, and the rules of LANGUAGE.md that a look at the class can tell. */
public final class LanguageTest {
    private static final Due due = new Due();

    public static void main(String[] args) throws IOException {
        face();
        words(Files.readString(Path.of("src/main/java/AgingStamps.java")));
        due.end();
    }

    private static void face() {
        Set<String> open = new TreeSet<>();
        Set<String> hidden = new TreeSet<>();
        for (Method m : AgingStamps.class.getDeclaredMethods()) {
            if (Modifier.isPrivate(m.getModifiers())) {
                hidden.add(m.getName());
            } else {
                StringBuilder told = new StringBuilder(m.getReturnType() + " " + m.getName());
                for (Class<?> c : m.getParameterTypes()) {
                    told.append(' ').append(c);
                }
                open.add(told.toString());
                asPublic(m);
            }
        }
        Set<String> want = Set.of("int write int", "int wipe", "int fault", "int album", "int stamp int int",
            "int letter int int", "int week", "int stick int int", "int send int", "int part int int", "int damp",
            "int undo", "int lives int", "int comes int int", "int fewest int", "int block int",
            "int judge int long", "int see int int int", "int unsee", "int bought int", "int share int boolean",
            "int rests int int int int", "int born int int boolean", "long seed long", "int years int",
            "int keep int", "int again int", "int count int");
        due.is("face " + open, open.equals(want) ? 1 : 0, 1);
        for (String told : want) {
            due.is("hidden " + told, hidden.contains(told.split(" ")[1]) ? 1 : 0, 0);
        }
        for (Field f : AgingStamps.class.getDeclaredFields()) {
            if (!Modifier.isPrivate(f.getModifiers())) {
                asPublic(f);
                due.is(f.getName(), Set.of("UNKNOWN", "OUTSIDE", "STATE", "FULL", "NONE").contains(f.getName()) ? 1 : 0, 1);
            }
        }
        for (Constructor<?> c : AgingStamps.class.getDeclaredConstructors()) {
            asPublic(c);
            due.is("constructor", c.getParameterCount(), 0);
        }
        due.is("class", AgingStamps.class.getModifiers(), Modifier.PUBLIC | Modifier.FINAL);
        due.is("UNKNOWN", AgingStamps.UNKNOWN, -1);
        due.is("OUTSIDE", AgingStamps.OUTSIDE, -2);
        due.is("STATE", AgingStamps.STATE, -3);
        due.is("FULL", AgingStamps.FULL, -4);
        due.is("NONE", AgingStamps.NONE, -9);
    }

    private static void asPublic(Member m) {
        due.is(m.getName() + " is public", Modifier.isPublic(m.getModifiers()) ? 1 : 0, 1);
    }

    private static void words(String source) {
        String bare = source.replaceAll("(?s)/\\*.*?\\*/", " ").replaceAll("//[^\n]*", " ");
        Matcher bad = Pattern.compile("\\b(throw|throws|try|catch|synchronized|assert|package|System\\.(?!arraycopy)\\w+"
            + "|Object|Thread|Random|\\w+Exact|equals|hashCode|toString|instanceof)\\b|->|::").matcher(bare);
        while (bad.find()) {
            due.is("forbidden " + bad.group(), 1, 0);
        }
        Matcher imports = Pattern.compile("import ([\\w.]+);").matcher(bare);
        while (imports.find()) {
            due.is("import " + imports.group(1), imports.group(1).equals("java.util.Arrays") ? 1 : 0, 1);
        }
        for (int i = 0; i < source.length(); i++) {
            due.is("sign at " + i, source.charAt(i) < 128 ? 1 : 0, 1);
        }
    }
}
