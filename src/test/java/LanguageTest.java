import java.lang.reflect.Constructor;
import java.lang.reflect.Field;
import java.lang.reflect.Method;
import java.lang.reflect.Modifier;
import java.nio.charset.StandardCharsets;
import java.nio.file.Files;
import java.nio.file.Path;
import java.util.ArrayList;
import java.util.Arrays;
import java.util.List;
import java.util.TreeSet;
import java.util.regex.Matcher;
import java.util.regex.Pattern;
import java.util.stream.Collectors;

/** What can be seen of the rules of LANGUAGE.md from the class and its text. Run at the root of the project. */
public final class LanguageTest {
    static final Path DOCUMENT = Path.of("../shared/DOC.md");
    static int wrong = 0;

    static void fail(String rule, String what) {
        wrong++;
        System.out.println("rule " + rule + ": " + what);
    }

    static void none(String rule, String code, String regex) {
        Matcher m = Pattern.compile(regex).matcher(code);
        while (m.find()) fail(rule, m.group());
    }

    public static void main(String[] args) throws Exception {
        String text = Files.readString(Path.of("src/main/java/DebtDoors.java"), StandardCharsets.UTF_8);
        for (int i = 0; i < text.length(); i++) if (text.charAt(i) > 126) fail("3", "sign at " + i);
        String code = text.replaceAll("(?s)/\\*.*?\\*/", "").replaceAll("//[^\n]*", "");
        String bare = code.replaceAll("\"[^\"\n]*\"", "\"\"").replaceAll("'[^'\n]*'", "' '");
        none("6", bare, "\\b(throw|throws|try|catch|finally|synchronized|assert|instanceof|equals|hashCode|toString)\\b");
        none("2", bare, "->|::|@\\w+");
        none("3", bare, "\\b(double|float|Object|Map|Set|var|volatile|transient|native)\\b");
        none("4", bare, "\\b(import|package|System\\.(?!arraycopy)\\w+|Arrays|Integer\\.(?!bitCount|numberOfTrailingZeros)\\w+|Math\\.(?!min|max|abs)\\w+)");
        none("5", bare, "\\bstatic (?!final )(?!class)[\\w\\[\\]]+ \\w+ *[=;]|static *\\{");
        none("3", bare, "\" *\\+|\\+ *\"");
        face();
        shapes();
        lengths(bare);
        System.out.println(wrong == 0 ? "no rule is seen broken" : wrong + " faults");
        if (wrong != 0) System.exit(1);
    }

    /** The face is the document's, as it is written there. */
    static void face() throws Exception {
        TreeSet<String> has = new TreeSet<>();
        for (Method m : DebtDoors.class.getDeclaredMethods()) {
            if (!Modifier.isPublic(m.getModifiers())) continue;
            if (Modifier.isStatic(m.getModifiers())) fail("1", m.getName() + " is static");
            has.add(m.getReturnType() + " " + m.getName() + Arrays.stream(m.getParameterTypes()).map(Class::getName).collect(Collectors.joining(", ", "(", ")")));
        }
        for (Field f : DebtDoors.class.getDeclaredFields()) {
            if (Modifier.isPublic(f.getModifiers())) has.add(f.getType() + " " + f.getName() + " = " + f.getInt(null));
        }
        for (Constructor<?> c : DebtDoors.class.getDeclaredConstructors()) {
            if (!Modifier.isPublic(c.getModifiers()) || c.getParameterCount() > 0) fail("1", c.toString());
        }
        int modifiers = DebtDoors.class.getModifiers();
        if (!Modifier.isPublic(modifiers) || !Modifier.isFinal(modifiers)) fail("1", "not public and final");
        if (!Files.exists(DOCUMENT)) {
            System.out.println("no " + DOCUMENT + ": the face was not looked up");
            return;
        }
        TreeSet<String> due = new TreeSet<>();
        Matcher line = Pattern.compile("(?m)^    public (?:static final )?(int [^;{]*);").matcher(Files.readString(DOCUMENT, StandardCharsets.UTF_8));
        while (line.find()) due.add(line.group(1).replaceAll("(int) \\w+(?=[,)])", "$1"));
        if (!has.equals(due)) fail("1", "the face is " + has + ", due is " + due);
    }

    static List<Class<?>> classes() {
        List<Class<?>> all = new ArrayList<>(List.of(DebtDoors.class));
        for (int i = 0; i < all.size(); i++) all.addAll(Arrays.asList(all.get(i).getDeclaredClasses()));
        return all;
    }

    static void shapes() {
        TreeSet<String> face = new TreeSet<>();
        for (Method m : DebtDoors.class.getDeclaredMethods()) if (Modifier.isPublic(m.getModifiers())) face.add(m.getName());
        if (classes().size() > 13) fail("11", classes().size() + " classes");
        for (Class<?> c : classes()) {
            int fields = 0;
            for (Field f : c.getDeclaredFields()) {
                boolean constant = Modifier.isStatic(f.getModifiers());
                if (!constant) fields++;
                if (constant && !Modifier.isFinal(f.getModifiers())) fail("5", c.getName() + "." + f.getName());
                if (c == DebtDoors.class && !constant && !Modifier.isPrivate(f.getModifiers())) fail("1", f.getName() + " is seen");
            }
            if (fields > 22) fail("11", c.getName() + " has " + fields + " fields");
            if (c != DebtDoors.class && (!Modifier.isStatic(c.getModifiers()) || Modifier.isPublic(c.getModifiers()))) fail("2", c.getName());
            for (Method m : c.getDeclaredMethods()) {
                boolean seen = Modifier.isPublic(m.getModifiers());
                if (c == DebtDoors.class && !seen && !Modifier.isPrivate(m.getModifiers())) fail("1", m.getName() + " is seen");
                if ((c != DebtDoors.class || !seen) && face.contains(m.getName())) fail("1", m.getName() + " is a public one's name");
                if (m.getParameterCount() > 7) fail("11", m.getName() + " has too many parameters");
            }
        }
    }

    static void lengths(String bare) {
        List<String> lines = List.of(bare.split("\n"));
        Pattern head = Pattern.compile("^ +(?:\\w+ )*[\\w\\[\\]]+ (\\w+)\\([^)]*\\) \\{$");
        for (int i = 0; i < lines.size(); i++) {
            Matcher m = head.matcher(lines.get(i));
            if (!m.matches() || lines.get(i).contains(" else ")) continue;
            String indent = lines.get(i).replaceAll("\\S.*", "");
            int end = i;
            while (end < lines.size() && !lines.get(end).equals(indent + "}")) end++;
            if (end - i > 60) fail("11", m.group(1) + " has " + (end - i) + " lines");
        }
    }
}
