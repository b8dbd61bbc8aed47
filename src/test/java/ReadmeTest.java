import java.nio.charset.StandardCharsets;
import java.nio.file.Files;
import java.nio.file.Path;
import java.util.ArrayList;
import java.util.List;

/**
 * The examples of README.md, run, each answer held against the number behind its line's "//". Each line of the
 * README's Java must stand in this file too. Run at the root of the project.
 */
public final class ReadmeTest {
    static int wrong = 0;

    static void fail(String what) {
        wrong++;
        System.out.println("README: " + what);
    }

    static void write(DebtDoors street, String text) {
        for (int at = 0; at < text.length(); at += 20) {
            int[] five = new int[5];
            for (int i = at; i < at + 20 && i < text.length(); i++) {
                five[(i - at) / 4] |= text.charAt(i) << 24 - 8 * (i % 4);
            }
            street.feed(five[0], five[1], five[2], five[3], five[4]);
        }
        street.end(street.count(6) - (20 - text.length() % 20) % 20);
    }

    static int[] example() {
        DebtDoors street = new DebtDoors();
        int giver = street.person(100, 3, 5);           // 0: the first person (purse, rooms, wary)
        int taker = street.person(0, 2, 0);             // 1
        int lent = street.lend(giver, taker, 60);       // 60: a debt of the taker to the giver
        int depth = street.deep(taker, giver);          // 1: the taker's house is open to the giver, a room deep
        int need = street.need(giver, taker, 2);        // 40: so much more is to be lent for room 2
        int refused = street.lend(giver, taker, 500);   // -3: the purse has not so much
        int why = street.status();                      // -3: what the latest of such calls was refused by
        int undone = street.undo();                     // 0: a lending was undone
        int purse = street.of(giver, 0);                // 100
        write(street, "depth owes / 20; grows 10 if age > 0; bars if visitor = 2");
        int law = street.law();                         // 0: the first law
        int before = street.force(law);                 // -1: none was in force
        write(street, "lend 0 to 1 of 45; wait times 2 if day < 9");
        int run = street.orders();                      // 3: a lending, two days waited
        int owes = street.owes(taker, giver);           // 53: 45 and a tenth, 49 and a tenth
        int into = street.deep(taker, giver);           // 2
        write(street, "lend 0 to 1 off 5");
        int read = street.orders();                     // -6: it can't be read
        int place = street.fault();                     // 12: from here
        return new int[] {giver, taker, lent, depth, need, refused, why, undone, purse, law, before, run, owes, into, read, place};
    }

    static List<String> readmeLines() throws Exception {
        List<String> java = new ArrayList<>();
        boolean within = false;
        for (String line : Files.readAllLines(Path.of("README.md"), StandardCharsets.UTF_8)) {
            if (line.startsWith("```")) within = line.equals("```java");
            else if (within && !line.isBlank()) java.add(line.strip());
        }
        return java;
    }

    public static void main(String[] args) throws Exception {
        List<String> own = new ArrayList<>();
        for (String line : Files.readAllLines(Path.of("src/test/java/ReadmeTest.java"), StandardCharsets.UTF_8)) own.add(line.strip());
        List<String> told = new ArrayList<>();
        for (String line : readmeLines()) {
            if (!own.contains(line)) fail("not run here: " + line);
            if (line.contains("// ")) told.add(line);
        }
        int[] answers = example();
        if (told.size() != answers.length) fail(told.size() + " answers are told, " + answers.length + " were given");
        for (int i = 0; i < answers.length && i < told.size(); i++) {
            String due = told.get(i).replaceAll(".*// (-?\\d+).*", "$1");
            if (!due.equals(Integer.toString(answers[i]))) fail("answered " + answers[i] + ": " + told.get(i));
        }
        for (java.lang.reflect.Method m : DebtDoors.class.getDeclaredMethods()) {
            if (java.lang.reflect.Modifier.isPublic(m.getModifiers()) && !Files.readString(Path.of("README.md")).contains("`" + m.getName() + "`")) {
                fail("nothing of " + m.getName());
            }
        }
        System.out.println(wrong == 0 ? "README's examples hold" : wrong + " faults of README");
        if (wrong != 0) System.exit(1);
    }
}
