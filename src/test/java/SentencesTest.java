import java.lang.reflect.InvocationTargetException;
import java.lang.reflect.Method;
import java.lang.reflect.Modifier;
import java.nio.charset.StandardCharsets;
import java.nio.file.Files;
import java.nio.file.Path;
import java.util.Arrays;
import java.util.BitSet;
import java.util.Comparator;
import java.util.List;
import java.util.Map;
import java.util.TreeMap;
import java.util.regex.Matcher;
import java.util.regex.Pattern;

/**
 * Runs the test of each sentence, and looks at the document itself: each test's sentence stands where its name
 * says, and no word of the promises and terms is without a test. With arguments only tests whose names begin so.
 */
public final class SentencesTest {
    static final List<Class<?>> ALL = List.of(
        SentencesOfTerms1.class, SentencesOfTerms2.class, SentencesOfTerms2Laws.class, SentencesOfTerms3.class,
        SentencesOfTerms4.class, Sentences01To08.class, Sentences09To17.class, Sentences18To26.class,
        Sentences27To35.class, Sentences36To43.class, Sentences44To49.class);
    static final Path DOCUMENT = Path.of("../shared/DOC.md");

    static int wrong = 0;
    static int ran = 0;

    static void wrong(String what) {
        wrong++;
        System.out.println(what);
    }

    static void run(Method test) throws IllegalAccessException {
        ran++;
        Sentences.x = new DebtDoors();
        Sentences.place = 0;
        int before = Sentences.wrong;
        try {
            test.invoke(null);
        } catch (InvocationTargetException e) {
            Sentences.wrong++;
            e.getCause().printStackTrace(System.out);
        }
        if (Sentences.place == 0) wrong(test.getName() + " asks nothing");
        if (Sentences.wrong == before) return;
        wrong++;
        System.out.println("    the document: " + test.getAnnotation(Sentences.Says.class).value());
    }

    /** The document's parts by the beginnings of the tests' names. */
    static Map<String, String> parts(String text) {
        Map<String, String> parts = new TreeMap<>();
        Matcher promises = Pattern.compile("(?s)## Promise (\\d+): [^\n]*\n(.*?)(?=\n## )").matcher(text);
        while (promises.find()) {
            parts.put(String.format("p%02d_", Integer.parseInt(promises.group(1))), promises.group(2).replaceFirst("`[^`]*`:", ""));
        }
        String terms = text.substring(text.indexOf("\n## Terms"), text.indexOf("\nThe constants:"));
        Matcher numbered = Pattern.compile("(?s)\n(I|II|III|IV)\\. (.*?)(?=\n(II|III|IV)\\. |$)").matcher(terms);
        int n = 0;
        while (numbered.find()) parts.put("t" + ++n + "_", numbered.group(2).replace("```text", "").replace("```", ""));
        Matcher constants = Pattern.compile("(?s)\nThe constants: (.*?)\n## ").matcher(text);
        Matcher calls = Pattern.compile("An object is used for [^\n]*").matcher(text);
        if (constants.find() && calls.find()) parts.put("c0_", calls.group() + "\n" + constants.group(1));
        return parts;
    }

    /** Marks all places of a sentence in a part; none: it does not stand there. */
    static boolean mark(String part, String sentence, BitSet told) {
        int at = part.indexOf(sentence);
        boolean stands = at >= 0 && !sentence.isEmpty();
        for (; at >= 0; at = part.indexOf(sentence, at + 1)) told.set(at, at + sentence.length());
        return stands;
    }

    static void look(List<Method> tests, Map<String, String> parts) {
        if (parts.size() != 54) wrong(parts.size() + " parts of the document were seen");
        Map<String, BitSet> told = new TreeMap<>();
        for (String name : parts.keySet()) told.put(name, new BitSet());
        for (Method test : tests) {
            String name = test.getName().replaceFirst("_.*", "_");
            String says = test.getAnnotation(Sentences.Says.class).value();
            if (!parts.containsKey(name) || !mark(parts.get(name), says, told.get(name))) {
                wrong(test.getName() + ": the document does not say there: " + says);
            }
        }
        for (String name : parts.keySet()) {
            String part = parts.get(name);
            Matcher words = Pattern.compile("[A-Za-z0-9]+").matcher(part);
            StringBuilder untold = new StringBuilder();
            while (words.find()) if (told.get(name).nextClearBit(words.start()) < words.end()) untold.append(' ').append(words.group());
            if (untold.length() > 0) wrong(name + ": no test says:" + untold);
        }
    }

    static List<Method> tests() {
        return ALL.stream().flatMap(c -> Arrays.stream(c.getDeclaredMethods()))
            .filter(m -> m.isAnnotationPresent(Sentences.Says.class))
            .sorted(Comparator.comparing(Method::getName)).toList();
    }

    public static void main(String[] args) throws Exception {
        List<Method> tests = tests();
        for (Class<?> c : ALL) {
            for (Method m : c.getDeclaredMethods()) {
                boolean named = m.getName().matches("[ptc]\\d+_.*");
                if (!m.isSynthetic() && named != m.isAnnotationPresent(Sentences.Says.class)) wrong(m.getName() + " has a name or a sentence alone");
                if (named && (!Modifier.isStatic(m.getModifiers()) || m.getParameterCount() > 0)) wrong(m.getName() + " can't be run");
            }
        }
        if (tests.stream().map(Method::getName).distinct().count() != tests.size()) wrong("two tests have one name");
        for (Method test : tests) {
            if (args.length == 0 || Arrays.stream(args).anyMatch(test.getName()::startsWith)) run(test);
        }
        if (Files.exists(DOCUMENT)) look(tests, parts(Files.readString(DOCUMENT, StandardCharsets.UTF_8)));
        else System.out.println("no " + DOCUMENT + ": the sentences were not looked up");
        System.out.println(wrong == 0 ? ran + " sentences hold" : wrong + " faults");
        if (wrong != 0) System.exit(1);
    }
}
