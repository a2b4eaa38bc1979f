import java.io.IOException;
import java.lang.reflect.Constructor;
import java.lang.reflect.Field;
import java.lang.reflect.Member;
import java.lang.reflect.Method;
import java.lang.reflect.Modifier;
import java.nio.file.Files;
import java.nio.file.Path;
import java.util.Set;
import java.util.TreeSet;
import java.util.regex.Matcher;
import java.util.regex.Pattern;

/** The face of the document, and the rules of LANGUAGE.md that a look at the class can tell. */
public final class LanguageTest {
    private static final Due due = new Due();

    public static void main(String[] args) throws IOException {
        String source = Files.readString(Path.of("src/main/java/AgingStamps.java"));
        String bare = source.replaceAll("(?s)/\\*.*?\\*/", " ").replaceAll("//[^\n]*", " ");
        face();
        classesInside();
        words(bare);
        lengths(source);
        signs(source);
        due.end();
    }

    private static void face() {
        Set<String> open = new TreeSet<>();
        Set<String> hidden = new TreeSet<>();
        for (Method m : AgingStamps.class.getDeclaredMethods()) {
            if (Modifier.isPrivate(m.getModifiers())) {
                hidden.add(m.getName());
            } else {
                StringBuilder told = new StringBuilder(m.getReturnType() + " " + m.getName());
                for (Class<?> c : m.getParameterTypes()) {
                    told.append(' ').append(c);
                }
                open.add(told.toString());
                asPublic(m);
            }
        }
        Set<String> want = Set.of("int write int", "int wipe", "int fault", "int album", "int stamp int int",
            "int letter int int", "int week", "int stick int int", "int send int", "int part int int", "int damp",
            "int undo", "int lives int", "int comes int int", "int fewest int", "int block int",
            "int judge int long", "int see int int int", "int unsee", "int bought int", "int share int boolean",
            "int rests int int int int", "int born int int boolean", "long seed long", "int years int",
            "int keep int", "int again int", "int count int");
        due.is("face " + open, open.equals(want) ? 1 : 0, 1);
        for (String told : want) {
            due.is("hidden " + told, hidden.contains(told.split(" ")[1]) ? 1 : 0, 0);
        }
        for (Field f : AgingStamps.class.getDeclaredFields()) {
            if (!Modifier.isPrivate(f.getModifiers())) {
                asPublic(f);
                due.is(f.getName(), Set.of("UNKNOWN", "OUTSIDE", "STATE", "FULL", "NONE").contains(f.getName()) ? 1 : 0, 1);
            }
        }
        for (Constructor<?> c : AgingStamps.class.getDeclaredConstructors()) {
            asPublic(c);
            due.is("constructor", c.getParameterCount(), 0);
        }
        due.is("class", AgingStamps.class.getModifiers(), Modifier.PUBLIC | Modifier.FINAL);
        due.is("UNKNOWN", AgingStamps.UNKNOWN, -1);
        due.is("OUTSIDE", AgingStamps.OUTSIDE, -2);
        due.is("STATE", AgingStamps.STATE, -3);
        due.is("FULL", AgingStamps.FULL, -4);
        due.is("NONE", AgingStamps.NONE, -9);
    }

    private static void asPublic(Member m) {
        due.is(m.getName() + " is public", Modifier.isPublic(m.getModifiers()) ? 1 : 0, 1);
    }

    /** Rules 1, 2, 5, 11: classes inside, their fields, static state, parameters. */
    private static void classesInside() {
        Class<?>[] inside = AgingStamps.class.getDeclaredClasses();
        due.is("classes, twelve at most", inside.length + 1 <= 12 ? 1 : 0, 1);
        membersOf(AgingStamps.class);
        for (Class<?> c : inside) {
            due.is(c.getName() + " is static", Modifier.isStatic(c.getModifiers()) ? 1 : 0, 1);
            due.is(c.getName() + " is public", Modifier.isPublic(c.getModifiers()) ? 1 : 0, 0);
            due.is(c.getName() + " has classes inside", c.getDeclaredClasses().length, 0);
            membersOf(c);
            for (Method m : c.getDeclaredMethods()) {
                due.is(m + " bears a public name", bearsPublicName(m) ? 1 : 0, 0);
            }
        }
    }

    private static void membersOf(Class<?> c) {
        int fields = 0;
        for (Field f : c.getDeclaredFields()) {
            boolean constant = Modifier.isStatic(f.getModifiers());
            fields += constant ? 0 : 1;
            due.is(f + " is final", constant && !Modifier.isFinal(f.getModifiers()) ? 1 : 0, 0);
            due.is(f + " is a number", constant && !f.getType().isPrimitive() ? 1 : 0, 0);
        }
        due.is(c.getName() + " has twenty fields at most", fields <= 20 ? 1 : 0, 1);
        for (Method m : c.getDeclaredMethods()) {
            due.is(m + " has seven parameters at most", m.getParameterCount() <= 7 ? 1 : 0, 1);
        }
    }

    private static boolean bearsPublicName(Method m) {
        for (Method open : AgingStamps.class.getDeclaredMethods()) {
            if (Modifier.isPublic(open.getModifiers()) && open.getName().equals(m.getName())) {
                return true;
            }
        }
        return false;
    }

    private static void words(String bare) {
        Matcher bad = Pattern.compile("\\b(throw|throws|try|catch|synchronized|assert|package|System\\.(?!arraycopy)\\w+"
            + "|Object|Thread|Random|\\w+Exact|equals|hashCode|toString|instanceof)\\b|->|::").matcher(bare);
        while (bad.find()) {
            due.is("forbidden " + bad.group(), 1, 0);
        }
        Matcher imports = Pattern.compile("import ([\\w.]+);").matcher(bare);
        while (imports.find()) {
            due.is("import " + imports.group(1), imports.group(1).equals("java.util.Arrays") ? 1 : 0, 1);
        }
        // Rule 12: objects are made where fields are made or in constructors, never by a call.
        Matcher made = Pattern.compile("(?m)^.*\\bnew\\b.*$").matcher(bare);
        while (made.find()) {
            String line = made.group().trim();
            due.is("made by a call: " + line, line.matches("(private )?final .*|cells = new int.*") ? 1 : 0, 1);
        }
        // Rule 10: texts are not joined by +, and rule 9 is easiest seen if no loop is a while.
        due.is("a text", bare.indexOf('"'), -1);
        due.is("a while", Pattern.compile("\\bwhile\\b").matcher(bare).find() ? 1 : 0, 0);
    }

    /** Rule 11: a method has some sixty lines; it begins and ends with the same room ahead of it. */
    private static void lengths(String source) {
        Matcher method = Pattern.compile("(?ms)^( +)[\\w\\[\\] ]+\\([^)\n]*\\) \\{\n.*?^\\1\\}$").matcher(source);
        int found = 0;
        while (method.find()) {
            found++;
            long lines = method.group().lines().count();
            due.is(method.group().lines().findFirst().orElse("") + " has sixty lines at most", lines <= 60 ? 1 : 0, 1);
        }
        due.is("methods are found", found > 60 ? 1 : 0, 1);
    }

    private static void signs(String source) {
        for (int i = 0; i < source.length(); i++) {
            due.is("sign at " + i, source.charAt(i) < 128 ? 1 : 0, 1);
        }
    }
}
