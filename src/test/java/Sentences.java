import java.lang.annotation.Retention;
import java.lang.annotation.RetentionPolicy;

/**
 * What the tests of single sentences share. Each of those is a static method without arguments, run on a new
 * object x. Its name begins with the place in the document: p07_ is promise 7, t2_ is part II of the terms, c0_
 * is what stands before and between those; Says tells the sentence in the document's own words.
 */
abstract class Sentences {
    @Retention(RetentionPolicy.RUNTIME)
    @interface Says {
        String value();
    }

    static final int NONE = -1;
    static final int NOTHING = -1000000;
    static final int MIN = Integer.MIN_VALUE;
    static final int MAX = Integer.MAX_VALUE;
    static final int[] ABSURD = {MIN, MIN + 1, -1000000, -2, MAX - 1, MAX};

    static DebtDoors x;
    static int wrong = 0;
    static int place = 0;

    static void anew() {
        x = new DebtDoors();
    }

    static void due(int want, int got) {
        place++;
        if (want == got) return;
        wrong++;
        StackWalker.StackFrame test = StackWalker.getInstance().walk(frames ->
            frames.filter(f -> f.getMethodName().matches("[ptc]\\d+_.*")).findFirst().get());
        System.out.println(test.getMethodName() + " (" + test.getFileName() + ":" + test.getLineNumber() + "), answer "
            + place + ": " + got + ", due is " + want);
    }

    static void dues(int[] want, int... got) {
        due(want.length, got.length);
        for (int i = 0; i < want.length && i < got.length; i++) due(want[i], got[i]);
    }

    /** A call that is refused by a code, and told so by status(). */
    static void refused(int code, int got) {
        due(code, got);
        due(code, x.status());
    }

    /** A call that is not refused. */
    static void taken(int want, int got) {
        due(want, got);
        due(0, x.status());
    }

    /** People with 100 each and three rooms. */
    static void people(int n) {
        people(n, 100);
    }

    static void people(int n, int purse) {
        for (int p = 0; p < n; p++) due(p, x.person(purse, 3, 0));
    }

    /** Debts of 1 until there are as many. */
    static void debtsUpTo(int n, int debtor, int creditor) {
        for (int d = x.count(1); d < n; d++) due(d, x.debt(debtor, creditor, 1));
    }

    static void tape(int... bytes) {
        due(0, x.end(0));
        for (int at = 0; at < bytes.length; at += 20) {
            int[] n = new int[5];
            for (int i = 0; i < 20; i++) n[i / 4] = n[i / 4] << 8 | (at + i < bytes.length ? bytes[at + i] : 0);
            x.feed(n[0], n[1], n[2], n[3], n[4]);
        }
        due(bytes.length, x.end(bytes.length));
    }

    static void text(String text) {
        int[] bytes = new int[text.length()];
        for (int i = 0; i < bytes.length; i++) bytes[i] = text.charAt(i);
        tape(bytes);
    }

    static int law(String text) {
        text(text);
        return x.law();
    }

    static int orders(String text) {
        text(text);
        return x.orders();
    }

    /** A law that is read and in force at once. */
    static void rule(String text) {
        int law = law(text);
        due(0, x.status());
        x.force(law);
        due(0, x.status());
    }

    static void lawFault(int want, String text) {
        refused(-6, law(text));
        due(want, x.fault());
    }

    static void ordersFault(int want, String text) {
        refused(-6, orders(text));
        due(want, x.fault());
    }

    static void lawReads(String text) {
        law(text);
        due(0, x.status());
        due(NONE, x.fault());
    }

    /** Orders that are read; whether they can be does not matter. */
    static void ordersRead(String text) {
        due(0, orders(text) == -6 ? 1 : 0);
        due(NONE, x.fault());
    }

    // A test that is so, is not so, is broken: "not" tells the latter two from one another.

    static void so(String test) {
        due(1, orders("wait if " + test));
        due(0, orders("wait if not (" + test + ")"));
    }

    static void notSo(String test) {
        due(0, orders("wait if " + test));
        due(1, orders("wait if not (" + test + ")"));
    }

    static void broken(String test) {
        due(0, orders("wait if " + test));
        due(0, orders("wait if not (" + test + ")"));
    }

    /** All debts as rows of debtor, creditor, amount, day. */
    static int[] debts() {
        int[] all = new int[4 * x.count(1)];
        for (int i = 0; i < all.length; i++) all[i] = x.at(i / 4, i % 4);
        return all;
    }

    static int[] purses() {
        int[] all = new int[x.count(0)];
        for (int p = 0; p < all.length; p++) all[p] = x.of(p, 0);
        return all;
    }

    /** What stands and can be asked for without a change, but for what was refused. */
    static String all() {
        StringBuilder all = new StringBuilder();
        for (int w = 0; w < 15; w++) if (w < 7 || w > 11) all.append(x.count(w)).append(' ');
        for (int p = 0; p < x.count(0); p++) for (int w = 0; w < 3; w++) all.append(x.of(p, w)).append(' ');
        for (int d : debts()) all.append(d).append(' ');
        for (int i = 0; i < 3; i++) all.append(x.lendings(i)).append(' ');
        for (int i = -1; i < x.count(2); i++) all.append(x.plan(i)).append(' ');
        all.append(x.secret(NONE)).append(' ').append(x.denied()).append(' ');
        all.append(x.fault()).append(' ').append(x.blots()).append(' ').append(x.drawn(0, 0));
        return all.toString();
    }

    static void same(String before) {
        due(0, before.equals(all()) ? 0 : 1);
    }
}
