import java.nio.charset.StandardCharsets;
import java.nio.file.Files;
import java.nio.file.Path;
import java.util.ArrayList;
import java.util.List;
import java.util.TreeSet;
import java.util.regex.Matcher;
import java.util.regex.Pattern;

/** What can be seen of the rules of LANGUAGE.md from the text of the class. Run at the root of the project. */
public final class LanguageTest {
    static int wrong = 0;

    static void fail(String rule, String what) {
        wrong++;
        System.out.println("rule " + rule + ": " + what);
    }

    static void none(String rule, String code, String regex) {
        Matcher m = Pattern.compile(regex).matcher(code);
        while (m.find()) fail(rule, m.group());
    }

    public static void main(String[] args) throws Exception {
        String text = Files.readString(Path.of("src/main/java/DebtDoors.java"), StandardCharsets.UTF_8);
        for (int i = 0; i < text.length(); i++) if (text.charAt(i) > 126) fail("3", "sign at " + i);
        String code = text.replaceAll("(?s)/\\*.*?\\*/", "").replaceAll("//[^\n]*", "");
        String bare = code.replaceAll("\"[^\"\n]*\"", "\"\"").replaceAll("'[^'\n]*'", "' '");
        none("6", bare, "\\b(throw|throws|try|catch|finally|synchronized|assert|instanceof|equals|hashCode|toString)\\b");
        none("2", bare, "->|::|@\\w+");
        none("3", bare, "\\b(double|float|Object|Map|Set|var|volatile|transient|native)\\b");
        none("4", bare, "\\b(import|package|System\\.(?!arraycopy)\\w+|Arrays|Integer\\.(?!bitCount|numberOfTrailingZeros|MIN_VALUE|MAX_VALUE)\\w+|Math\\.(?!min|max|abs)\\w+)");
        none("5", bare, "\\bstatic (?!final )(?!class)[\\w\\[\\]]+ \\w+ *[=;]|static *\\{");
        none("3", bare, "\" *\\+|\\+ *\"");
        Matcher face = Pattern.compile("(?m)^    public int (\\w+)\\(").matcher(bare);
        TreeSet<String> names = new TreeSet<>();
        while (face.find()) names.add(face.group(1));
        if (names.size() != 48) fail("1", names.size() + " public methods");
        methods(bare, names);
        int classes = bare.split("\\bclass \\w+", -1).length - 1;
        if (classes > 12) fail("11", classes + " classes");
        none("1", bare, "(?m)^    (?!private|public|\\})\\S.*");
        System.out.println(wrong == 0 ? "no rule is seen broken" : wrong + " faults");
        if (wrong != 0) System.exit(1);
    }

    static void methods(String bare, TreeSet<String> names) {
        List<String> lines = List.of(bare.split("\n"));
        Pattern head = Pattern.compile("^ +(public |private )?(static )?[\\w\\[\\]]+ (\\w+)\\(([^)]*)\\) \\{$");
        List<String> all = new ArrayList<>();
        for (int i = 0; i < lines.size(); i++) {
            Matcher m = head.matcher(lines.get(i));
            if (!m.matches() || lines.get(i).contains(" else ")) continue;
            all.add(m.group(3));
            if (!"public ".equals(m.group(1)) && names.contains(m.group(3))) fail("1", m.group(3) + " is a public one's name");
            if (m.group(4).split(",").length > 7) fail("11", m.group(3) + " has too many parameters");
            String indent = lines.get(i).replaceAll("\\S.*", "");
            int end = i;
            while (end < lines.size() && !lines.get(end).equals(indent + "}")) end++;
            if (end - i > 60) fail("11", m.group(3) + " has " + (end - i) + " lines");
        }
        if (all.size() < 100) fail("11", "only " + all.size() + " methods were seen");
    }
}
