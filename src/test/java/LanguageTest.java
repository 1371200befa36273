import java.io.IOException;
import java.lang.reflect.Field;
import java.lang.reflect.Method;
import java.lang.reflect.Modifier;
import java.nio.file.Files;
import java.nio.file.Path;
import java.util.Arrays;
import java.util.List;
import java.util.Set;
import java.util.TreeSet;
import java.util.regex.Matcher;
import java.util.regex.Pattern;

/** The rules of LANGUAGE.md that can be looked up in the source or the compiled classes, and the face of the document. */
public final class LanguageTest {
    private static final Path SOURCE = Path.of("src/main/java/MendedThings.java");
    private static final List<String> FACE = List.of(
        "int feed 5", "boolean end 1", "int island 0", "int fault 1", "int has 1", "int letter 3", "int thing 2", "int mender 2",
        "int takes 2", "int fine 2", "int trial 2", "int kept 2", "int later 2", "int breaks 1", "int house 2", "long gain 2",
        "int row 1", "int parts 0", "int lawed 2", "int see 1", "int tells 2", "boolean strike 1", "int mend 2", "boolean forge 1",
        "int days 1", "int chance 1", "boolean undo 0", "boolean seed 1", "long ask 0", "int image 0", "int octet 1", "boolean on 0",
        "int status 1");

    public static void main(String[] args) throws IOException {
        face();
        headings();
        classes();
        words();
        methodLengths();
        Kit.finish("LanguageTest");
    }

    private static void face() {
        Set<String> found = new TreeSet<>();
        Set<String> names = new TreeSet<>();
        for (Method m : MendedThings.class.getDeclaredMethods()) {
            if (Modifier.isPublic(m.getModifiers())) {
                found.add(m.getReturnType() + " " + m.getName() + " " + m.getParameterCount());
                names.add(m.getName());
                Kit.due(m + " is not static", Modifier.isStatic(m.getModifiers()), false);
                Kit.due(m + " takes ints", Arrays.stream(m.getParameterTypes()).allMatch(t -> t == int.class), true);
            }
        }
        Kit.due("the face is the document's: " + found, found.equals(new TreeSet<>(FACE)), true);
        for (Method m : MendedThings.class.getDeclaredMethods()) {
            boolean open = Modifier.isPublic(m.getModifiers());
            Kit.due(m + " is public or private", open || Modifier.isPrivate(m.getModifiers()), true);
        }
        for (Class<?> c : MendedThings.class.getDeclaredClasses()) {
            for (Method m : c.getDeclaredMethods()) {
                Kit.due(m + " bears no name of the face", names.contains(m.getName()), false);
            }
        }
        Kit.due("one constructor", MendedThings.class.getConstructors().length, 1);
        Kit.due("final", Modifier.isFinal(MendedThings.class.getModifiers()), true);
        Kit.due("NONE", MendedThings.NONE, -1);
        Kit.due("NOTHING", MendedThings.NOTHING, -1000000000000000L);
    }

    /** "Ahead of the calls .. the interface says: ---- ..": each of these calls has that line as the last such one ahead of it. */
    private static void headings() throws IOException {
        String source = Files.readString(SOURCE);
        Matcher told = Pattern.compile("Ahead of the calls (`.*`) the interface says: (---- .*)\\.")
            .matcher(Files.readString(Path.of("../shared/DOC.md")));
        int count = 0;
        while (told.find()) {
            count++;
            for (String call : told.group(1).replace("`", "").split(", ")) {
                Matcher found = Pattern.compile("    public \\w+ " + call + "\\(").matcher(source);
                Kit.due(call + " is there", found.find(), true);
                String ahead = source.substring(0, found.start());
                int at = ahead.lastIndexOf("    // ---- ");
                Kit.due(told.group(2) + " is ahead of " + call, at >= 0 && ahead.startsWith("// " + told.group(2) + "\n", at + 4), true);
            }
        }
        Kit.due("headings", count, 6);
    }

    private static void classes() {
        Class<?>[] inside = MendedThings.class.getDeclaredClasses();
        Kit.due("at most twelve classes", inside.length < 12, true);
        for (Class<?> c : inside) {
            Kit.due(c + " is static", Modifier.isStatic(c.getModifiers()), true);
            look(c);
        }
        look(MendedThings.class);
        for (Field f : MendedThings.class.getDeclaredFields()) {
            boolean constant = f.getName().equals("NONE") || f.getName().equals("NOTHING");
            Kit.due(f + " is private", constant || Modifier.isPrivate(f.getModifiers()), true);
        }
    }

    private static void look(Class<?> c) {
        int own = 0;
        for (Field f : c.getDeclaredFields()) {
            boolean fixed = Modifier.isStatic(f.getModifiers());
            Kit.due(f + " is final if static", !fixed || Modifier.isFinal(f.getModifiers()), true);
            own += fixed ? 0 : 1;
        }
        Kit.due(c + " has some twenty fields at most", own <= 20, true);
        for (Method m : c.getDeclaredMethods()) {
            Kit.due(m + " takes at most seven", m.getParameterCount() <= 7, true);
        }
    }

    private static void words() throws IOException {
        String source = Files.readString(SOURCE);
        String bare = source.replaceAll("(?s)/\\*.*?\\*/", "").replaceAll("//[^\n]*", "")
            .replaceAll("\"[^\"\n]*\"", "\"\"").replaceAll("'[^'\n]'", "' '");
        String[] banned = {"\\bthrow\\b", "\\bthrows\\b", "\\btry\\b", "\\bcatch\\b", "\\bsynchronized\\b", "\\bassert\\b", "->", "::",
            "\\bObject\\b", "\\bequals\\b", "\\bhashCode\\b", "\\btoString\\b", "\\bSystem\\.(?!arraycopy)", "\\bpackage\\b",
            "\\bThread\\b", "Exact\\b", "\\bnull\\b", "^\\s*static\\s*\\{", "\\bdouble\\b", "\\bfloat\\b", "\\bprotected\\b"};
        for (String word : banned) {
            Kit.due("the source has " + word, Pattern.compile(word, Pattern.MULTILINE).matcher(bare).find(), false);
        }
        for (String line : bare.split("\n")) {
            Kit.due(line, line.startsWith("import ") && !line.equals("import java.util.Arrays;"), false);
        }
        Kit.due("signs are 1 to 127", source.chars().allMatch(c -> c > 0 && c < 128), true);
    }

    private static void methodLengths() throws IOException {
        List<String> lines = Files.readAllLines(SOURCE);
        int from = -1;
        for (int k = 0; k < lines.size(); k++) {
            String line = lines.get(k);
            if (line.matches("( {4}| {8})\\S.*\\).*\\{") && !line.contains(" class ")) {
                from = k;
            } else if (line.matches("( {4}| {8})\\}") && from >= 0) {
                Kit.due(lines.get(from).trim() + " is short", k - from <= 60, true);
                from = -1;
            }
        }
    }
}
