/** For each promise of the document calls by which it would show if it were broken. */
public final class PromisesTest {
    static final int NONE = -1;
    static final int NOTHING = -1000000;
    static final int MIN = Integer.MIN_VALUE;
    static final int MAX = Integer.MAX_VALUE;

    static int wrong = 0;
    static int promise = 0;
    static int place = 0;
    static DebtDoors x;

    static void due(int want, int got) {
        place++;
        if (want != got) {
            wrong++;
            System.out.println("promise " + promise + ", call " + place + ": answered " + got + ", due is " + want
                + " (" + Thread.currentThread().getStackTrace()[2] + ")");
        }
    }

    /** A refused call: its code, and status() tells it. */
    static void refused(int want, int got) {
        due(want, got);
        due(want, x.status());
    }

    static void start(int number) {
        promise = number;
        place = 0;
        x = new DebtDoors();
    }

    /** People with 100 each and three rooms. */
    static void people(int n) {
        for (int p = 0; p < n; p++) due(p, x.person(100, 3, 10 * p));
    }

    static void tape(int... bytes) {
        x.end(0);
        for (int at = 0; at < bytes.length; at += 20) {
            int[] n = new int[5];
            for (int i = 0; i < 20; i++) n[i / 4] = n[i / 4] << 8 | (at + i < bytes.length ? bytes[at + i] : 0);
            x.feed(n[0], n[1], n[2], n[3], n[4]);
        }
        x.end(bytes.length);
    }

    static void text(String text) {
        int[] bytes = new int[text.length()];
        for (int i = 0; i < bytes.length; i++) bytes[i] = text.charAt(i);
        tape(bytes);
    }

    static int law(String text) {
        text(text);
        return x.law();
    }

    static int orders(String text) {
        text(text);
        return x.orders();
    }

    /** A law in force at once. */
    static void rule(String text) {
        x.force(law(text));
        due(0, x.status());
    }

    static void fault(int want, String text, boolean asOrders) {
        due(-6, asOrders ? orders(text) : law(text));
        due(want, x.fault());
        due(0, x.count(6));
    }

    static void read(String text, boolean asOrders) {
        int told = asOrders ? orders(text) : law(text);
        if (told == -6) due(0, told);
        due(NONE, x.fault());
    }

    // ------------------------------------------------------------------ promises 1 to 8

    static void newObject() {
        start(1);
        int[] counts = {0, 0, 0, 0, 0, 0, 0, 0, 0, 0, 0, 0, NONE, 0, 0};
        for (int w = 0; w < counts.length; w++) due(counts[w], x.count(w));
        due(0, x.status());
        due(0, x.blots());
        due(NONE, x.fault());
        due(NONE, x.stopped());
        due(NONE, x.of(0, 0));
        due(NONE, x.at(0, 0));
        due(NONE, x.owes(0, 1));
        due(NONE, x.deep(0, 1));
        due(NONE, x.doors(0));
        due(NONE, x.need(0, 1, 1));
        due(NONE, x.ban(0));
        due(NONE, x.party(1));
        due(NONE, x.cleared(0));
        due(NOTHING, x.balance(0));
        due(0, x.payments());
        due(0, x.secret(NONE));
        due(0, x.denied());
        due(NOTHING, x.drawn(0, 0));
        due(-2, x.back(0));
        due(-2, x.back(1));
        due(-3, x.undo());
        due(-1, DebtDoors.NONE);
        due(-1000000, DebtDoors.NOTHING);
    }

    static void person() {
        start(2);
        due(0, x.person(0, 1, 0));
        due(1, x.person(9999, 3, 99));
        refused(-1, x.person(-1, 1, 0));
        refused(-1, x.person(10000, 1, 0));
        refused(-1, x.person(0, 0, 0));
        refused(-1, x.person(0, 4, 0));
        refused(-1, x.person(0, 1, -1));
        refused(-1, x.person(0, 1, 100));
        refused(-1, x.person(MIN, MAX, MIN));
        due(2, x.count(0));
        for (int p = 2; p < 7; p++) due(p, x.person(p, 2, p));
        due(0, x.status());
        refused(-5, x.person(1, 1, 1));
        refused(-1, x.person(1, 4, 1));
        due(7, x.count(0));
        due(9999, x.of(1, 0));
    }

    static void put() {
        start(3);
        people(2);
        due(100, x.put(0, 0, 9999));
        due(9999, x.put(0, 0, 0));
        due(3, x.put(1, 1, 1));
        due(10, x.put(1, 2, 99));
        due(0, x.of(0, 0));
        due(3, x.of(0, 1));
        due(1, x.of(1, 1));
        due(99, x.of(1, 2));
        due(100, x.of(1, 0));
        due(99, x.put(1, 2, 0));
        due(1, x.put(1, 1, 3));
        refused(-1, x.put(0, 3, 1));
        refused(-1, x.put(0, 2, -1));
        refused(-1, x.put(0, -1, 1));
        refused(-1, x.put(0, 0, -1));
        refused(-1, x.put(0, 0, 10000));
        refused(-1, x.put(0, 1, 0));
        refused(-1, x.put(0, 1, 4));
        refused(-1, x.put(0, 2, 100));
        refused(-1, x.put(9, 2, 100));
        refused(-2, x.put(2, 0, 1));
        refused(-2, x.put(-1, 0, 1));
        due(0, x.of(0, 0));
    }

    static void of() {
        start(4);
        due(0, x.person(12, 2, 34));
        due(12, x.of(0, 0));
        due(2, x.of(0, 1));
        due(34, x.of(0, 2));
        due(NONE, x.of(0, 3));
        due(NONE, x.of(0, -1));
        due(NONE, x.of(1, 0));
        due(NONE, x.of(-1, 0));
        due(NONE, x.of(MIN, MAX));
        due(0, x.status());
    }

    static void debt() {
        start(5);
        people(2);
        due(0, x.terms(0, 7));
        due(0, x.debt(0, 1, 1));
        due(1, x.debt(1, 0, 9999));
        due(7, x.at(0, 3));
        due(100, x.of(0, 0));
        refused(-1, x.debt(0, 1, 0));
        refused(-1, x.debt(0, 1, 10000));
        refused(-1, x.debt(0, 0, 5));
        refused(-1, x.debt(9, 9, 5));
        refused(-2, x.debt(0, 2, 5));
        refused(-2, x.debt(-1, 0, 5));
        refused(-2, x.debt(7, 0, 5));
        for (int d = 2; d < 16; d++) due(d, x.debt(0, 1, d));
        refused(-5, x.debt(0, 1, 5));
        refused(-2, x.debt(0, 2, 5));
        due(16, x.count(1));
    }

    static void at() {
        start(6);
        people(3);
        x.terms(0, 4);
        x.debt(2, 0, 50);
        due(2, x.at(0, 0));
        due(0, x.at(0, 1));
        due(50, x.at(0, 2));
        due(4, x.at(0, 3));
        due(50, x.at(0, 4));
        due(0, x.at(0, 5));
        due(NONE, x.at(0, 6));
        due(NONE, x.at(0, -1));
        due(NONE, x.at(1, 0));
        due(NONE, x.at(-1, 0));
        due(NONE, x.at(MAX, 4));
        // owner: the debtor, visitor: the creditor; the last that holds, the nearest that can be.
        rule("sells 1; sells owner * 100 + visitor + amount; sells 3 if 1 = 0; grows age * 10 + 1");
        due(250, x.at(0, 4));
        due(1, x.at(0, 5));
        x.terms(0, 13);
        due(91, x.at(0, 5));
        x.terms(0, 14);
        due(99, x.at(0, 5));
        x.terms(0, 3);
        due(0, x.at(0, 5));
        rule("sells 1000 * 1000; grows 5 if wary = 20 and rooms = 3 and mood = 0 and day = 3 and owes = 50 and back = 0");
        due(9999, x.at(0, 4));
        due(5, x.at(0, 5));
        rule("sells 0 - 1; sells 1 / 0; grows 7 if 1 / 0 = 1");
        due(0, x.at(0, 4));
        due(0, x.at(0, 5));
        rule("sells 1 / 0");
        due(50, x.at(0, 4));
    }

    static void owes() {
        start(7);
        people(3);
        x.debt(0, 1, 5);
        x.debt(0, 1, 6);
        x.debt(1, 0, 7);
        due(11, x.owes(0, 1));
        due(7, x.owes(1, 0));
        due(0, x.owes(0, 2));
        due(NONE, x.owes(0, 0));
        due(NONE, x.owes(0, 3));
        due(NONE, x.owes(-1, 0));
        due(NONE, x.owes(MAX, MIN));
    }

    static void terms() {
        start(8);
        due(0, x.terms(0, 999));
        due(999, x.terms(0, 5));
        due(0, x.terms(1, 9));
        due(9, x.terms(1, 3));
        due(5, x.count(13));
        due(3, x.count(14));
        refused(-1, x.terms(0, 1000));
        refused(-1, x.terms(0, -1));
        refused(-1, x.terms(1, 10));
        refused(-1, x.terms(1, -1));
        refused(-1, x.terms(2, 0));
        refused(-1, x.terms(-1, 0));
        due(5, x.count(13));
        due(3, x.count(14));
    }

    // ------------------------------------------------------------------ promises 9 to 17: texts

    static void feed() {
        start(9);
        due(20, x.feed(0x00010203, 0xFF000000, 0, 0, 0x00000007));
        for (int n = 40; n <= 400; n += 20) due(n, x.feed(0, 0, 0, 0, 0));
        due(NONE, x.feed(0, 0, 0, 0, 0));
        due(400, x.count(6));
        due(381, x.end(381));
        due(NONE, x.feed(0, 0, 0, 0, 0));
        due(380, x.end(380));
        due(400, x.feed(0, 0, 0, 0, 0));
        // The highest byte of a number comes first, the numbers one behind the other.
        x = new DebtDoors();
        people(7);
        due(20, x.feed(0x00010203, 0x0203FFFF, 0x030400FF, 0x04050001, 0x05060100));
        due(4, x.row());
        due(515, x.at(0, 2));
        due(3, x.at(1, 0));
        due(255, x.at(1, 2));
        due(1, x.at(2, 2));
        due(256, x.at(3, 2));
        due(6, x.at(3, 1));
    }

    static void end() {
        start(10);
        due(NONE, x.end(1));
        due(0, x.end(0));
        x.feed(0x62617273, 0x20202020, 0, 0, 0);
        due(NONE, x.end(21));
        due(NONE, x.end(-1));
        due(NONE, x.end(MIN));
        due(NONE, x.end(MAX));
        due(20, x.end(20));
        due(6, x.end(6));
        due(NONE, x.end(7));
        due(6, x.count(6));
        due(0, x.law());
    }

    static void row() {
        start(11);
        refused(-6, x.row());
        people(3);
        x.terms(0, 9);
        x.lend(0, 1, 5);
        tape(0, 1, 0, 200, 1, 1, 0, 5, 0, 1, 0x27, 0x10, 0, 3, 0, 1, 2, 0, 0x27, 0x0F, 1, 0, 0, 0, 0, 1, 1);
        due(2, x.row());
        due(0, x.status());
        due(0, x.count(6));
        due(5, x.blots());
        due(3, x.count(1));
        due(200, x.at(1, 2));
        due(9999, x.at(2, 2));
        due(9, x.at(2, 3));
        due(0, x.count(5));
        x.lend(0, 1, 5);
        tape(9, 9, 0, 1);
        due(0, x.row());
        due(0, x.count(5));
        refused(-6, x.row());
        x.lend(0, 1, 5);
        refused(-6, x.row());
        due(1, x.count(5));
        for (int d = 5; d < 15; d++) x.debt(0, 1, 5);
        tape(0, 1, 0, 1, 0, 1, 0, 2, 0, 1, 0, 3);
        due(1, x.row());
        due(2, x.blots());
        due(1, x.at(15, 2));
    }

    static void blots() {
        start(12);
        due(0, x.blots());
        people(2);
        tape(0, 1, 0, 1, 0);
        due(1, x.row());
        due(1, x.blots());
        due(-6, x.row());
        due(1, x.blots());
        tape(0, 1, 0, 1);
        due(1, x.row());
        due(0, x.blots());
        tape(1);
        due(0, x.row());
        x.image(0);
        tape(1, 1, 1, 1, 1);
        due(0, x.row());
        x.back(0);
        due(2, x.blots());
    }

    static void law() {
        start(13);
        due(0, law("bars"));
        due(1, law("  depth 1 ; grows 2;sells 3 if 1=1  "));
        due(NONE, x.fault());
        refused(-6, law(""));
        due(0, x.fault());
        refused(-6, law("   "));
        due(3, x.fault());
        due(2, x.count(4));
        refused(-6, law("depth 1;"));
        due(8, x.fault());
        for (int n = 2; n < 6; n++) due(n, law("bars"));
        refused(-5, law("junk"));
        due(0, x.count(6));
        due(NONE, x.fault());
        refused(-5, x.law());
        lawFaults();
        lawLimits();
    }

    static void lawFaults() {
        x = new DebtDoors();
        fault(0, "depthq 1", false);
        fault(0, "barsz", false);
        fault(4, "bars0", false);
        fault(0, "Depth 1", false);
        fault(5, "depth", false);
        fault(6, "depth ;", false);
        fault(8, "depth 1 2", false);
        fault(7, "depth 1x", false);
        fault(8, "depth 12owes", false);
        fault(6, "depth -1", false);
        fault(6, "depth (1)", false);
        fault(6, "depth purse 1", false);
        fault(6, "depth 1001", false);
        fault(6, "depth 99999999999999999999", false);
        fault(8, "depth 1+", false);
        fault(8, "depth 1 times 2", false);
        fault(5, "bars 1", false);
        fault(9, "bars if 1", false);
        fault(10, "bars if [1=1]", false);
        fault(12, "bars if (1=1]", false);
        fault(11, "bars if 1=1=1", false);
        fault(15, "bars if 1=1 or ", false);
        fault(15, "bars if 1=1 or or 1=1", false);
        fault(11, "bars if not", false);
        fault(10, "bars if [1)=1", false);
        fault(4, "bars, bars", false);
        fault(4, "bars\n", false);
        fault(4, "bars\t", false);
        fault(6, "depth done", false);
        fault(8, "bars if <1", false);
        fault(0, "lend 1 to 2 of 3", false);
        fault(0, ";bars", false);
        fault(5, "bars;;bars", false);
        read("depth 0001000", false);
        read("depth[1]if not not(not 1=1)", false);
        read("bars if owner=visitor or owes<back and rooms>wary or amount=age and day=mood", false);
        read("sells [[1]]", false);
    }

    static void lawLimits() {
        x = new DebtDoors();
        String twelve = "bars;bars;bars;bars;bars;bars;bars;bars;bars;bars;bars;bars";
        read(twelve, false);
        fault(60, twelve + ";bars", false);
        fault(60, twelve + ";9", false);
        fault(62, twelve + ";  ", false);
        String fifty = "depth 1" + "+1".repeat(49);
        read(fifty, false);
        fault(106, fifty + "+1", false);
        fault(106, fifty + "+owes", false);
        fault(112, fifty + ";depth 1", false);
        read("bars if " + "(".repeat(4) + "[".repeat(4) + "1" + "]".repeat(4) + "=1" + ")".repeat(4), false);
        fault(16, "bars if " + "(".repeat(8) + "[1]=1" + ")".repeat(8), false);
        fault(16, "bars if " + "(".repeat(9) + "1=1" + ")".repeat(9), false);
        fault(14, "depth " + "[".repeat(9) + "1" + "]".repeat(9), false);
        read("depth " + "[".repeat(8) + "1" + "]".repeat(8) + "+" + "[".repeat(8) + "1" + "]".repeat(8), false);
        read("bars if " + "not ".repeat(96) + "1=1", false);
        fault(400, "bars if " + "not ".repeat(98), false);
    }

    static void orders() {
        start(14);
        people(3);
        due(2, orders("lend 0 to 1 of 30; lend 1 to 2 of 130"));
        due(70, x.of(0, 0));
        due(0, x.of(1, 0));
        due(230, x.of(2, 0));
        due(2, x.count(1));
        due(1, orders("repay 2 to 1 of 1000"));
        due(0, x.owes(2, 1));
        due(5, orders("wait times 5"));
        due(5, x.count(13));
        due(0, orders("wait if day = 0"));
        due(0, x.count(6));
        // Wholly or not at all.
        due(8, x.count(5));
        refused(-3, orders("lend 0 to 1 of 10; wait; lend 0 to 1 of 1000"));
        due(70, x.of(0, 0));
        due(5, x.count(13));
        due(1, x.count(1));
        due(8, x.count(5));
        due(4, x.undo());
        due(4, x.count(13));
        refused(-3, orders("lend 0 to 0 of 1"));
        refused(-3, orders("lend 0 to 9 of 1"));
        refused(-3, orders("lend 0 to 1 of 0"));
        refused(-3, orders("lend 0 to 1 of 1 / 0"));
        refused(-3, orders("repay 0 to 1 of 1"));
        refused(-3, orders("lend 1 / 0 to 1 of 1"));
        refused(-3, orders("lend 2 to 1 / 0 of 1"));
        x.terms(0, 999);
        refused(-3, orders("wait"));
        refused(-6, orders(""));
        due(0, x.fault());
        ordersWords();
        ordersRoom();
        ordersFaults();
    }

    static void ordersWords() {
        x = new DebtDoors();
        people(3);
        x.terms(0, 6);
        due(1, orders("lend day - 6 to debts + 1 of purse 0 - purse 1 + 7"));
        due(7, x.owes(1, 0));
        due(1, orders("repay 1 to 0 of owed 1 0 - 2"));
        due(2, x.owes(1, 0));
        due(1, orders("lend 0 to 1 of 0 - purse 3 - purse 6"));
        due(4, x.owes(1, 0));
        due(1, orders("lend 0 to 1 of 1 + owed 0 0 + owed 0 6 + owed 0 1"));
        due(5, x.owes(1, 0));
        // last: what the latest lend, repay told in this text; done: how many were run in it.
        due(3, orders("lend 0 to 2 of last + 5; wait; lend 0 to 2 of last * 2 + done"));
        due(4, x.at(3, 2));
        due(10, x.at(4, 2));
        due(0, orders("wait if done > 0 or not last = 0 - 1"));
        due(2, orders("wait times 5 if done < 2"));
        due(1, orders("repay 2 to 0 of 3 times 2 if last < 3"));
        // A broken test: not run.
        due(0, orders("wait if 1 / 0 = 1 or 1 = 1"));
        due(1, orders("wait if 1 = 1 or 1 / 0 = 1"));
        due(0, orders("wait if 1 = 0 and 1 / 0 = 1"));
        due(1, orders("wait if not (1 = 0 and 1 / 0 = 1)"));
        due(0, orders("wait if not 1 / 0 = 1"));
        due(1, orders("wait if 1000 * 1000 * 1000 > 0"));
        due(0, orders("wait if 1000 * 1000 * 1000 + 1 > 0"));
        due(1, orders("wait if 0 - 1000 * 1000 * 1000 < 0"));
        due(0, orders("wait if 0 - 1000 * 1000 * 1000 - 1 < 0"));
        due(0, orders("wait if 1000 * 1000 * 1000 * 2 / 4 > 0"));
        due(1, orders("wait if [0 - 7] / 2 = 0 - 3 and [0 - 7] % 2 = 0 - 1"));
        due(1, orders("wait if 7 - 2 - 1 = 4 and 7 - 2 * 3 = 1 and 100 / 10 / 5 = 2 and 17 % 10 % 4 = 3"));
        due(1, orders("wait if 1 = 1 or 1 = 1 and 1 = 0"));
        due(0, orders("wait if (1 = 1 or 1 = 1) and 1 = 0"));
        due(0, orders("wait if 7 % 0 = 0"));
        // What is owed is counted anew each time.
        x.put(0, 0, 500);
        due(2, orders("lend 0 to 1 of owed 1 0 times 2"));
        due(20, x.owes(1, 0));
    }

    static void ordersRoom() {
        x = new DebtDoors();
        people(2);
        refused(-5, orders("lend 0 to 1 of 1 times 20"));
        due(0, x.count(1));
        due(100, x.of(0, 0));
        due(0, x.stopped());
        due(16, orders("lend 0 to 1 of 1 times 16"));
        due(16, x.count(1));
        refused(-5, orders("wait; lend 0 to 1 of 1"));
        // Purses ahead of room.
        refused(-3, orders("lend 0 to 1 of 1000"));
    }

    static void ordersFaults() {
        x = new DebtDoors();
        fault(0, "bars", true);
        fault(4, "lend", true);
        fault(6, "lend 1", true);
        fault(7, "lend 1 2", true);
        fault(11, "lend 1 to 2", true);
        fault(14, "lend 1 to 2 of", true);
        fault(17, "lend 1 to 2 of 3 4", true);
        fault(5, "lend owes to 2 of 3", true);
        fault(5, "wait 1", true);
        fault(11, "wait times 0", true);
        fault(11, "wait times 21", true);
        fault(11, "wait times day", true);
        fault(13, "wait times 1 times 1", true);
        fault(12, "wait if 1=1 times 2", true);
        fault(13, "wait if purse", true);
        fault(14, "wait if purse 7=1", true);
        fault(14, "wait if owed 1=1", true);
        fault(15, "wait if owed 1 9=1", true);
        fault(14, "wait if purse day=1", true);
        read("wait times 20 if purse 06 > owed 0 6", true);
        String nested = "[".repeat(8) + "0" + "]".repeat(8);
        x.person(100, 1, 1);
        due(-3, orders("lend " + nested + " to " + nested + " of " + nested));
        due(NONE, x.fault());
        String fifty = "wait if 1" + "+1".repeat(48) + "=";
        read(fifty + "purse 1", true);
        read(fifty + "owed 1 2", true);
        fault(115, fifty + "owed 1 2+purse 1", true);
        read("wait times 9;" + fifty + "1", true);
        String twelve = "wait;wait;wait;wait;wait;wait;wait;wait;wait;wait;wait;wait";
        read(twelve, true);
        fault(60, twelve + ";wait", true);
    }

    static void fault() {
        start(15);
        due(NONE, x.fault());
        law("bars bars");
        due(5, x.fault());
        orders("wait");
        due(NONE, x.fault());
        orders("junk");
        due(0, x.fault());
        // Orders that can't be are a text all the same.
        orders(" lend 0 to 1 of 1");
        due(NONE, x.fault());
        for (int i = 0; i < 6; i++) law("bars");
        orders("wait 5");
        due(5, x.fault());
        // No room for a law: no text was read.
        law("junk");
        due(5, x.fault());
        x.image(0);
        orders("junk");
        x.back(0);
        due(0, x.fault());
    }

    static void stopped() {
        start(16);
        due(NONE, x.stopped());
        people(2);
        due(-3, orders("wait; wait if 1 = 0; lend 0 to 1 of 999; wait"));
        due(2, x.stopped());
        x.image(0);
        due(-3, orders("repay 0 to 1 of 1"));
        due(0, x.stopped());
        x.back(0);
        due(0, x.stopped());
        due(-6, orders("lend 0 to 1 of"));
        due(NONE, x.stopped());
        due(-3, orders("wait; lend 5 to 6 of 1"));
        due(1, x.stopped());
        due(1, orders("wait"));
        due(NONE, x.stopped());
        due(-5, orders("wait;wait;lend 0 to 1 of 1 times 17"));
        due(2, x.stopped());
    }

    static void force() {
        start(17);
        refused(-2, x.force(0));
        due(NONE, x.force(NONE));
        due(0, x.status());
        law("bars");
        law("depth 2");
        due(NONE, x.force(1));
        due(0, x.status());
        due(1, x.count(12));
        due(1, x.force(0));
        refused(-2, x.force(2));
        refused(-2, x.force(-2));
        refused(-2, x.force(MAX));
        refused(-2, x.force(MIN));
        due(0, x.force(NONE));
        due(NONE, x.count(12));
    }

    // ------------------------------------------------------------------ promises 18, 19: doors

    static void deep() {
        start(18);
        people(3);
        x.put(2, 1, 2);
        due(0, x.deep(0, 1));
        int[][] rows = {{1, 1}, {98, 1}, {1, 2}, {99, 2}, {1, 3}, {150, 3}};
        for (int[] row : rows) {
            x.debt(0, 1, row[0]);
            due(row[1], x.deep(0, 1));
        }
        x.debt(2, 1, 500);
        due(2, x.deep(2, 1));
        due(0, x.deep(1, 0));
        due(NONE, x.deep(0, 0));
        due(NONE, x.deep(0, 3));
        due(NONE, x.deep(-1, 0));
        due(NONE, x.deep(MAX, MIN));
        deepByLaw();
    }

    static void deepByLaw() {
        x = new DebtDoors();
        people(3);
        x.put(1, 1, 2);
        x.debt(1, 2, 150);
        rule("depth 1; depth 2; depth 3 if 1 = 0; depth 1 / 0; depth 3 if 1 % 0 = 0");
        due(2, x.deep(0, 1));
        rule("depth 9");
        due(3, x.deep(0, 1));
        due(2, x.deep(1, 0));
        rule("depth 0 - 9");
        due(0, x.deep(1, 2));
        rule("grows 5; depth 1 if 1 = 0");
        due(2, x.deep(1, 2));
        due(0, x.deep(0, 2));
        rule("depth 3; bars if visitor = 2");
        due(3, x.deep(0, 1));
        due(0, x.deep(0, 2));
        rule("depth 0; depth 3 if owner = 1 and visitor = 2 and owes = 150 and back = 0 and rooms = 2 and wary = 10 and amount = 0 - 1 and age = 0 - 1 and day = 0 and mood = 0");
        due(2, x.deep(1, 2));
        due(0, x.deep(0, 2));
        x.force(NONE);
        due(0, x.deep(0, 2));
    }

    static void doors() {
        start(19);
        people(4);
        due(0, x.doors(0));
        x.debt(1, 0, 5);
        x.debt(3, 0, 500);
        x.debt(0, 2, 5);
        due(10, x.doors(0));
        due(1, x.doors(2));
        due(0, x.doors(1));
        due(NONE, x.doors(4));
        due(NONE, x.doors(-1));
        rule("depth 1");
        due(14, x.doors(0));
        due(7, x.doors(3));
    }

    // ------------------------------------------------------------------ promises 20 to 26: deeds

    static void lend() {
        start(20);
        people(3);
        x.terms(0, 3);
        due(60, x.lend(0, 1, 60));
        due(40, x.of(0, 0));
        due(160, x.of(1, 0));
        due(1, x.at(0, 0));
        due(0, x.at(0, 1));
        due(60, x.at(0, 2));
        due(3, x.at(0, 3));
        due(40, x.lend(0, 1, 40));
        due(2, x.count(1));
        refused(-3, x.lend(0, 1, 1));
        refused(-3, x.lend(1, 1, 1));
        refused(-1, x.lend(1, 1, 0));
        refused(-1, x.lend(1, 0, 10000));
        refused(-1, x.lend(9, 9, MIN));
        refused(-2, x.lend(1, 3, 1));
        refused(-2, x.lend(-1, 1, 1));
        x.put(2, 0, 9990);
        due(9, x.lend(1, 2, 9));
        refused(-3, x.lend(1, 2, 1));
        for (int d = 3; d < 16; d++) due(1, x.lend(1, 0, 1));
        refused(-5, x.lend(1, 0, 1));
        refused(-3, x.lend(1, 2, 1));
        due(16, x.count(1));
    }

    static void repay() {
        start(21);
        people(3);
        x.debt(0, 1, 30);
        x.debt(0, 2, 25);
        x.debt(0, 1, 40);
        refused(-1, x.repay(0, 1, 0));
        refused(-1, x.repay(0, 1, 10000));
        refused(-2, x.repay(0, 3, 5));
        refused(-2, x.repay(-1, 0, 5));
        refused(-3, x.repay(1, 0, 5));
        refused(-3, x.repay(0, 0, 5));
        due(20, x.repay(0, 1, 20));
        due(10, x.at(0, 2));
        due(15, x.repay(0, 1, 15));
        due(2, x.count(1));
        due(2, x.at(0, 1));
        due(35, x.at(1, 2));
        due(35, x.repay(0, 1, 9999));
        due(0, x.owes(0, 1));
        due(30, x.of(0, 0));
        due(170, x.of(1, 0));
        x.put(0, 0, 7);
        due(7, x.repay(0, 2, 20));
        refused(-3, x.repay(0, 2, 20));
        x.put(0, 0, 100);
        x.put(2, 0, 9995);
        due(4, x.repay(0, 2, 20));
        due(9999, x.of(2, 0));
        refused(-3, x.repay(0, 2, 20));
        due(14, x.owes(0, 2));
    }

    static void forgive() {
        start(22);
        people(3);
        x.debt(0, 1, 30);
        x.debt(1, 2, 40);
        x.debt(2, 0, 50);
        due(40, x.forgive(1));
        due(2, x.count(1));
        due(50, x.at(1, 2));
        due(2, x.at(1, 0));
        due(100, x.of(1, 0));
        refused(-2, x.forgive(2));
        refused(-2, x.forgive(-1));
        refused(-2, x.forgive(MAX));
        due(30, x.forgive(0));
        due(50, x.forgive(0));
        refused(-2, x.forgive(0));
        due(-2, x.status());
    }

    static void sell() {
        start(23);
        people(4);
        x.terms(0, 2);
        x.debt(0, 1, 80);
        x.terms(0, 5);
        refused(-2, x.sell(1, 2));
        refused(-2, x.sell(0, 4));
        refused(-2, x.sell(-1, -1));
        refused(-3, x.sell(0, 0));
        refused(-3, x.sell(0, 1));
        due(80, x.sell(0, 2));
        due(2, x.at(0, 1));
        due(0, x.at(0, 0));
        due(80, x.at(0, 2));
        due(2, x.at(0, 3));
        due(20, x.of(2, 0));
        due(180, x.of(1, 0));
        due(100, x.of(0, 0));
        rule("sells amount / 2 + age");
        due(43, x.sell(0, 3));
        due(63, x.of(2, 0));
        due(57, x.of(3, 0));
        x.put(1, 0, 42);
        refused(-3, x.sell(0, 1));
        x.put(1, 0, 43);
        x.put(3, 0, 9957);
        refused(-3, x.sell(0, 1));
        x.put(3, 0, 9956);
        due(43, x.sell(0, 1));
        due(9999, x.of(3, 0));
        due(0, x.of(1, 0));
        rule("sells 0");
        due(0, x.sell(0, 2));
        due(0, x.status());
        due(2, x.at(0, 1));
    }

    static void await() {
        start(24);
        people(3);
        x.debt(0, 1, 119);
        due(0, x.await());
        due(1, x.count(13));
        rule("grows 10 if age > 1");
        due(11, x.await());
        due(130, x.at(0, 2));
        due(0, x.at(0, 3));
        // One behind the other: the second is asked when the first has grown.
        rule("grows 50 if owes > 200; grows 10");
        x.put(0, 0, 1);
        due(130, x.forgive(0));
        x.debt(0, 1, 100);
        x.debt(0, 1, 95);
        rule("grows 10 if owes < 200; grows 50 if owes > 199");
        due(10 + 47, x.await());
        due(110, x.at(0, 2));
        due(142, x.at(1, 2));
        rule("grows 99");
        x.debt(2, 1, 9000);
        due(108 + 140 + 999, x.await());
        due(9999, x.at(2, 2));
        x.terms(0, 998);
        due(0, 0 * x.await());
        due(999, x.count(13));
        refused(-3, x.await());
        due(999, x.count(13));
    }

    static void clear() {
        start(25);
        refused(-3, x.clear());
        people(4);
        x.debt(0, 1, 10);
        x.debt(0, 1, 30);
        x.debt(1, 2, 25);
        refused(-3, x.clear());
        x.debt(2, 0, 90);
        due(25, x.clear());
        due(15, x.owes(0, 1));
        due(0, x.owes(1, 2));
        due(65, x.owes(2, 0));
        due(2, x.count(1));
        due(15, x.at(0, 2));
        due(100, x.of(0, 0));
        refused(-3, x.clear());
    }

    static void undo() {
        start(26);
        refused(-3, x.undo());
        people(3);
        x.debt(0, 1, 50);
        rule("grows 10; sells 1");
        due(20, x.lend(0, 1, 20));
        due(30, x.repay(0, 1, 30));
        due(20, x.forgive(0));
        due(1, x.sell(0, 2));
        x.force(NONE);
        x.force(0);
        due(2, x.await());
        due(5, x.count(5));
        due(4, x.undo());
        due(0, x.count(13));
        due(3, x.undo());
        due(0, x.at(0, 1));
        due(2, x.undo());
        due(20, x.at(0, 2));
        due(1, x.undo());
        due(50, x.at(0, 2));
        due(80, x.of(0, 0));
        due(0, x.undo());
        due(100, x.of(0, 0));
        due(1, x.count(1));
        refused(-3, x.undo());
        undoOfRings();
        undoKept();
        undoForgotten();
    }

    static void undoOfRings() {
        x = new DebtDoors();
        people(2);
        x.debt(0, 1, 9);
        x.debt(1, 0, 9);
        due(9, x.clear());
        due(0, x.count(1));
        due(5, x.undo());
        due(2, x.count(1));
        // Sixteen are kept, by orders too.
        due(20, orders("wait times 20"));
        due(16, x.count(5));
        for (int day = 19; day >= 4; day--) {
            due(4, x.undo());
            due(day, x.count(13));
        }
        refused(-3, x.undo());
        for (int i = 0; i < 18; i++) x.await();
        due(16, x.count(5));
        due(4, x.undo());
        due(21, x.count(13));
    }

    /** Of a full row none is lost by what can't be. */
    static void undoKept() {
        x = new DebtDoors();
        people(2);
        for (int i = 0; i < 17; i++) x.await();
        refused(-3, x.lend(0, 0, 1));
        refused(-3, x.repay(0, 1, 1));
        refused(-3, orders("wait times 20; lend 0 to 1 of 5 times 12; lend 0 to 1 of 999"));
        due(16, x.count(5));
        for (int day = 16; day >= 1; day--) {
            due(4, x.undo());
            due(day, x.count(13));
            due(100, x.of(0, 0));
            due(0, x.count(1));
        }
        due(-3, x.undo());
    }

    static void undoForgotten() {
        for (int how = 0; how < 14; how++) {
            x = new DebtDoors();
            people(2);
            x.lend(0, 1, 10);
            x.await();
            switch (how) {
                case 0: x.person(1, 1, 1); break;
                case 1: x.put(0, 2, 20); break;
                case 2: x.debt(0, 1, 5); break;
                case 3: tape(1); x.row(); break;
                case 4: x.terms(1, 0); break;
                case 5: x.image(0); x.back(0); break;
                case 6: x.person(1, 1, 100); break;
                case 7: x.put(0, 2, 100); break;
                case 8: x.debt(0, 0, 5); break;
                case 9: x.row(); break;
                case 10: x.terms(1, 10); break;
                case 11: x.image(0); x.back(1); break;
                case 12: x.visit(0, 1, 1, 1); x.cancel(); x.scuff(0, 1, 1, 1); x.sweep(); law("bars"); x.force(0); break;
                default: x.lend(0, 0, 1); x.repay(0, 0, 1); x.forgive(9); x.sell(9, 9); x.clear(); x.month(1, 1);
            }
            due(how < 6 ? 0 : 2, x.count(5));
            due(how < 6 ? -3 : 4, x.undo());
        }
    }

    // ------------------------------------------------------------------ promises 27 to 35

    static void need() {
        start(27);
        people(3);
        x.put(2, 1, 2);
        due(1, x.need(0, 1, 1));
        due(100, x.need(0, 1, 2));
        due(200, x.need(0, 1, 3));
        due(NONE, x.need(0, 2, 3));
        x.debt(1, 0, 130);
        due(0, x.need(0, 1, 2));
        due(70, x.need(0, 1, 3));
        due(NONE, x.need(0, 0, 1));
        due(NONE, x.need(0, 3, 1));
        due(NONE, x.need(-1, 0, 1));
        due(NONE, x.need(0, 1, 0));
        due(NONE, x.need(0, 1, 4));
        rule("depth 1 if owes > 999; depth 2 if owes = 1000 + 129; depth 3 if owes = 1000 + 130; depth 0 if owes < 1000");
        due(870, x.need(0, 1, 1));
        due(999, x.need(0, 1, 2));
        due(NONE, x.need(0, 1, 3));
        due(NONE, x.need(1, 0, 1));
        rule("depth 3; bars if back > 0");
        due(NONE, x.need(1, 0, 1));
        due(0, x.need(0, 1, 3));
    }

    static void visit() {
        start(28);
        people(3);
        due(1, x.visit(0, 1, 1, 0));
        due(2, x.visit(2, 1, 3, 999));
        refused(-1, x.visit(1, 1, 1, 0));
        refused(-1, x.visit(9, 9, 1, 0));
        refused(-1, x.visit(0, 1, 0, 0));
        refused(-1, x.visit(0, 1, 4, 0));
        refused(-1, x.visit(0, 1, 1, -1));
        refused(-1, x.visit(0, 1, 1, 1000));
        refused(-2, x.visit(0, 3, 1, 0));
        refused(-2, x.visit(-1, 0, 1, 0));
        for (int i = 3; i <= 8; i++) due(i, x.visit(0, 1, 1, 0));
        refused(-5, x.visit(0, 1, 1, 0));
        refused(-2, x.visit(0, 5, 1, 0));
        due(8, x.count(2));
    }

    static void cancel() {
        start(29);
        due(0, x.cancel());
        people(2);
        x.visit(0, 1, 1, 0);
        x.visit(0, 1, 1, 0);
        due(2, x.cancel());
        due(0, x.count(2));
        due(0, x.cancel());
        due(1, x.visit(0, 1, 1, 0));
    }

    static void lendings() {
        start(30);
        due(0, x.lendings(0));
        due(0, x.lendings(1));
        due(1, x.lendings(2));
        due(NONE, x.lendings(3));
        due(NONE, x.lendings(-1));
        due(NONE, x.lendings(MAX));
        people(4);
        // 0 can lend 1 only what 2 lends it first; the deepest room is what one lends for.
        x.visit(0, 1, 1, 0);
        x.visit(2, 0, 2, 0);
        x.visit(0, 1, 3, 0);
        x.visit(3, 1, 1, 0);
        due(3, x.lendings(0));
        due(301, x.lendings(1));
        due(3, x.lendings(2));
        due(1, x.lendings(3));
        due(0, x.lendings(4));
        due(3, x.lendings(5));
        due(NONE, x.lendings(6));
        x.debt(1, 3, 5);
        due(2, x.lendings(0));
        due(1, x.lendings(2));
        x.put(2, 0, 99);
        due(2, x.lendings(0));
        due(300, x.lendings(1));
        due(0, x.lendings(2));
        due(NONE, x.lendings(3));
        x.put(2, 0, 100);
        x.put(0, 0, 9900);
        // The taker's purse can't take it, until it has lent itself.
        due(1, x.lendings(2));
        due(0, x.lendings(3));
        due(1, x.lendings(4));
        x.put(1, 1, 2);
        for (int w = 0; w < 6; w++) due(NONE, x.lendings(w));
        x.put(1, 1, 3);
        for (int d = 1; d < 16; d++) x.debt(2, 3, 1);
        due(2, x.lendings(0));
        due(1, x.lendings(2));
        x.cancel();
        due(0, x.lendings(0));
        lendingsInRow();
    }

    static void lendingsInRow() {
        x = new DebtDoors();
        x.person(100, 3, 0);
        x.person(0, 3, 0);
        x.person(10, 3, 0);
        x.debt(2, 0, 50);
        x.debt(0, 2, 40);
        x.visit(0, 1, 2, 0);
        x.visit(0, 2, 2, 0);
        x.visit(2, 0, 2, 0);
        // 0 first is possible, but then none of the others can be any more.
        due(3, x.lendings(0));
        due(210, x.lendings(1));
        due(1, x.lendings(2));
        due(1, x.lendings(3));
        due(2, x.lendings(4));
        due(0, x.lendings(5));
        due(NONE, x.lendings(6));
        // 9,999 just goes.
        x = new DebtDoors();
        x.person(500, 3, 0);
        x.person(9998, 3, 0);
        x.visit(0, 1, 1, 0);
        due(1, x.lendings(2));
        x.put(1, 0, 9999);
        due(0, x.lendings(2));
        // Eight of them, in any row.
        x = new DebtDoors();
        people(7);
        for (int p = 1; p < 7; p++) x.visit(0, p, 1, 0);
        x.visit(1, 0, 1, 0);
        x.visit(2, 0, 1, 0);
        due(8, x.lendings(0));
        due(40320, x.lendings(2));
        due(7, x.lendings(10));
        due(NONE, x.lendings(11));
    }

    static void plan() {
        start(31);
        due(1, x.plan(NONE));
        due(NONE, x.plan(0));
        people(3);
        x.debt(0, 1, 50);
        x.debt(1, 2, 150);
        x.put(1, 0, 60);
        x.visit(1, 0, 1, 50);
        x.visit(2, 1, 2, 100);
        x.visit(1, 0, 1, 999);
        // The first and the third settle all: either shuts the other out.
        due(0, x.plan(NONE));
        due(NONE, x.plan(0));
        x.debt(0, 1, 10);
        // 0 behind 2 can't be, for 2 settles all 60; 1 anywhere.
        due(3, x.plan(NONE));
        due(0, x.plan(0));
        due(1, x.plan(1));
        due(2, x.plan(2));
        due(NONE, x.plan(3));
        due(NONE, x.plan(-2));
        due(NONE, x.plan(MAX));
        due(60, x.owes(0, 1));
        // What one has been paid can be paid to the next.
        x = new DebtDoors();
        people(3);
        x.put(1, 0, 0);
        x.debt(0, 1, 40);
        x.debt(1, 2, 40);
        x.visit(2, 1, 1, 40);
        x.visit(1, 0, 1, 40);
        x.visit(2, 1, 1, 0);
        due(5, x.plan(NONE));
        due(0, x.plan(0));
        due(1, x.plan(1));
        due(2, x.plan(2));
        rule("depth 1 if back = 0 and owes > 0; depth 0 if owes = 0");
        due(5, x.plan(NONE));
        x.force(NONE);
        x.put(2, 0, 9999);
        // Nothing can be paid to a full purse.
        due(6, x.plan(NONE));
        // A purse that is empty then settles no more: the second of 1 can be behind it.
        x = new DebtDoors();
        people(3);
        x.put(0, 0, 50);
        x.debt(0, 1, 50);
        x.debt(0, 2, 50);
        x.visit(1, 0, 1, 50);
        x.visit(2, 0, 1, 50);
        x.visit(2, 0, 1, 0);
        due(4, x.plan(NONE));
        due(0, x.plan(0));
        due(1, x.plan(1));
        due(2, x.plan(2));
        x.cancel();
        for (int i = 0; i < 8; i++) x.visit(1, 0, 1, i % 2);
        due(40320, x.plan(NONE));
        due(7, x.plan(7));
    }

    static void thief() {
        start(32);
        people(4);
        x.debt(0, 1, 60);
        x.debt(0, 2, 40);
        x.debt(1, 2, 500);
        x.debt(0, 2, 100);
        x.debt(0, 3, 1);
        due(0, x.thief(3, 0, 1, 0));
        due(0, x.thief(3, 0, 1, 1));
        // 99 more: 60 and 40 for 100, or 100 for 100: the fewest.
        due(100, x.thief(3, 0, 2, 0));
        due(8, x.thief(3, 0, 2, 1));
        due(200, x.thief(3, 0, 3, 0));
        due(11, x.thief(3, 0, 3, 1));
        due(NONE, x.thief(0, 3, 1, 0));
        due(NONE, x.thief(0, 0, 1, 0));
        due(NONE, x.thief(4, 0, 1, 0));
        due(NONE, x.thief(3, 4, 1, 0));
        due(NONE, x.thief(3, 0, 0, 0));
        due(NONE, x.thief(3, 0, 4, 0));
        due(NONE, x.thief(3, 0, 1, 2));
        due(NONE, x.thief(3, 0, 1, -1));
        rule("sells 9 if amount = 100; sells 4 if amount = 60");
        due(9, x.thief(3, 0, 2, 0));
        due(8, x.thief(3, 0, 2, 1));
        rule("sells 5");
        due(5, x.thief(3, 0, 2, 0));
        due(15, x.thief(3, 0, 3, 0));
        due(11, x.thief(3, 0, 3, 1));
        // Of as many for as much the lowest as bits; not for nothing more, if nothing is enough.
        rule("sells 0; depth 1 if owes > 39; depth 0 if owes < 40");
        due(0, x.thief(3, 0, 1, 0));
        due(1, x.thief(3, 0, 1, 1));
        due(0, x.thief(1, 0, 1, 1));
        // 3 is owed 1 already: 100 more are enough.
        rule("sells 0; bars if visitor = 1; depth 3 if visitor = 3 and owner = 0 and back = 0 and owes > 100; depth 0 if owes < 101");
        due(8, x.thief(3, 0, 3, 1));
        due(NONE, x.thief(1, 0, 1, 1));
        due(100, x.of(3, 0));
    }

    static void shut() {
        start(33);
        people(3);
        due(0, x.shut(0, 1, 1));
        x.debt(0, 1, 100);
        x.debt(0, 1, 50);
        due(150, x.shut(0, 1, 1));
        due(51, x.shut(0, 1, 2));
        due(0, x.shut(0, 1, 3));
        due(NONE, x.shut(0, 0, 1));
        due(NONE, x.shut(0, 3, 1));
        due(NONE, x.shut(-1, 0, 1));
        due(NONE, x.shut(0, 1, 0));
        due(NONE, x.shut(0, 1, 4));
        rule("depth 2");
        due(NONE, x.shut(0, 1, 1));
        due(NONE, x.shut(0, 1, 2));
        due(0, x.shut(0, 1, 3));
        rule("depth 2; depth 1 if owes < 100 and owes > 90; bars if owes = 70");
        due(51, x.shut(0, 1, 2));
        due(80, x.shut(0, 1, 1));
        due(150, x.owes(0, 1));
    }

    static void ban() {
        start(34);
        people(3);
        due(0, x.ban(0));
        x.debt(1, 0, 30);
        x.debt(2, 0, 200);
        x.debt(0, 1, 7);
        due(230, x.ban(0));
        due(7, x.ban(1));
        due(0, x.ban(2));
        due(NONE, x.ban(3));
        due(NONE, x.ban(-1));
        rule("depth 1; depth 0 if owes < 20; depth 3 if owner = 2 and visitor = 0");
        due(NONE, x.ban(0));
        due(0, x.ban(1));
        x = new DebtDoors();
        due(0, x.person(1, 1, 1));
        due(0, x.ban(0));
    }

    static void party() {
        start(35);
        due(NONE, x.party(0));
        due(0, x.person(1, 1, 1));
        due(0, x.party(0));
        due(0, x.party(1));
        due(1, x.person(1, 1, 1));
        due(2, x.person(1, 1, 1));
        due(0, x.party(0));
        due(2, x.party(1));
        x.debt(1, 0, 5);
        x.debt(2, 0, 5);
        due(1, x.party(0));
        due(1, x.party(1));
        x.debt(2, 1, 5);
        due(2, x.party(0));
        due(0, x.party(1));
        due(NONE, x.party(2));
        due(NONE, x.party(-1));
        rule("bars if owner = 2; depth 1 if owes > 49; depth 0 if owes < 50");
        due(1, x.party(0));
        due(95, x.party(1));
        rule("bars");
        due(NONE, x.party(0));
        due(NONE, x.party(1));
    }

    // ------------------------------------------------------------------ promises 36 to 43

    static void ring() {
        start(36);
        due(NONE, x.ring(NONE));
        for (int p = 0; p < 7; p++) x.person(1, 1, 1);
        x.debt(4, 2, 5);
        x.debt(2, 6, 5);
        due(NONE, x.ring(NONE));
        x.debt(6, 4, 5);
        due(3, x.ring(NONE));
        due(2, x.ring(0));
        due(6, x.ring(1));
        due(4, x.ring(2));
        due(NONE, x.ring(3));
        due(NONE, x.ring(-2));
        due(NONE, x.ring(MAX));
        // As many, lower as bits: 0, 1, 5 is 35, 2, 4, 6 is 84.
        x.debt(0, 5, 1);
        x.debt(5, 1, 1);
        x.debt(1, 0, 1);
        due(0, x.ring(0));
        due(5, x.ring(1));
        due(1, x.ring(2));
        // Fewer people go ahead of lower bits.
        x.debt(3, 6, 1);
        x.debt(6, 3, 1);
        due(2, x.ring(NONE));
        due(3, x.ring(0));
        due(6, x.ring(1));
        // All seven.
        x = new DebtDoors();
        for (int p = 0; p < 7; p++) x.person(1, 1, 1);
        int[] row = {0, 3, 6, 1, 5, 2, 4};
        for (int i = 0; i < 7; i++) {
            due(NONE, x.ring(NONE));
            x.debt(row[i], row[(i + 1) % 7], 1 + i);
        }
        due(7, x.ring(NONE));
        for (int i = 0; i < 7; i++) due(row[i], x.ring(i));
    }

    static void cleared() {
        start(37);
        due(NONE, x.cleared(0));
        due(NONE, x.cleared(1));
        people(3);
        x.debt(0, 1, 105);
        x.debt(1, 2, 205);
        x.debt(2, 0, 20);
        // 0 to 1: 85, from 2 rooms to 1; 1 to 2: 185, from 3 to 2; 2 to 0: nothing, from 1 to 0.
        due(20, x.cleared(0));
        due(3, x.cleared(1));
        due(NONE, x.cleared(2));
        due(NONE, x.cleared(-1));
        due(105, x.owes(0, 1));
        due(3, x.count(1));
        due(0, x.count(5));
        rule("depth 1 if back > 0 or owes > 0; depth 2 if owes > 200; depth 0 if owes + back = 0");
        // 2 and 0 owe one another nothing then: 2 into 0 and 0 into 2; 2 into 1 less deep.
        due(3, x.cleared(1));
        rule("depth 3");
        due(0, x.cleared(1));
    }

    static void balance() {
        start(38);
        people(3);
        x.debt(0, 1, 30);
        x.debt(1, 2, 50);
        x.debt(2, 1, 5);
        due(-30, x.balance(0));
        due(-15, x.balance(1));
        due(45, x.balance(2));
        due(NOTHING, x.balance(3));
        due(NOTHING, x.balance(-1));
        due(NOTHING, x.balance(MIN));
    }

    static void payments() {
        start(39);
        due(0, x.payments());
        for (int p = 0; p < 7; p++) x.person(1, 1, 1);
        due(0, x.payments());
        x.debt(0, 1, 30);
        due(1, x.payments());
        x.debt(1, 2, 30);
        due(1, x.payments());
        x.debt(3, 4, 10);
        due(2, x.payments());
        // -30, +30 and -10, +10 are even by themselves; 5 and 6 join all but one.
        x.debt(5, 6, 7);
        due(3, x.payments());
        x.debt(6, 0, 1);
        due(4, x.payments());
        x.debt(2, 0, 30);
        due(3, x.payments());
        x.debt(4, 5, 2);
        due(4, x.payments());
    }

    static void scuff() {
        start(40);
        people(3);
        due(1, x.scuff(0, 1, 1, 0));
        due(2, x.scuff(0, 1, 3, 1));
        refused(-1, x.scuff(1, 1, 1, 0));
        refused(-1, x.scuff(9, 9, 1, 0));
        refused(-1, x.scuff(0, 1, 0, 0));
        refused(-1, x.scuff(0, 1, 4, 0));
        refused(-1, x.scuff(0, 1, 1, 2));
        refused(-1, x.scuff(0, 1, 1, -1));
        refused(-2, x.scuff(0, 3, 1, 0));
        refused(-2, x.scuff(-1, 0, 1, 0));
        for (int i = 3; i <= 8; i++) due(i, x.scuff(0, 1, 1, 0));
        refused(-5, x.scuff(0, 1, 1, 0));
        refused(-2, x.scuff(0, 5, 1, 0));
        due(8, x.count(3));
    }

    static void sweep() {
        start(41);
        due(0, x.sweep());
        people(2);
        x.scuff(0, 1, 1, 1);
        x.scuff(0, 1, 2, 0);
        due(2, x.sweep());
        due(0, x.count(3));
        due(0, x.sweep());
        due(20, x.secret(NONE));
    }

    static void secret() {
        start(42);
        people(3);
        due(60, x.secret(NONE));
        due(10, x.secret(0));
        due(19, x.secret(9));
        due(20, x.secret(10));
        due(70, x.secret(20));
        due(159, x.secret(59));
        due(NONE, x.secret(60));
        due(NONE, x.secret(-2));
        due(NONE, x.secret(MAX));
        x.debt(2, 1, 30);
        x.scuff(1, 2, 2, 1);
        // 70 more at least: 80 is the fourth.
        due(7, x.secret(NONE));
        due(153, x.secret(0));
        due(159, x.secret(6));
        x.scuff(1, 2, 3, 0);
        // 170 more at least would be too much: 180 is the ninth.
        due(5, x.secret(NONE));
        due(157, x.secret(4));
        x.scuff(0, 1, 1, 1);
        due(0, x.secret(NONE));
        due(NONE, x.secret(0));
        x.sweep();
        rule("depth 1 if back > 100; depth 0 if back < 101");
        x.scuff(0, 1, 1, 1);
        due(5, x.secret(NONE));
        due(15, x.secret(0));
        due(1, x.count(1));
    }

    static void denied() {
        start(43);
        people(3);
        due(0, x.denied());
        x.debt(0, 1, 60);
        x.debt(0, 1, 50);
        x.debt(1, 2, 5);
        x.debt(0, 1, 1);
        due(15, x.denied());
        x.scuff(1, 0, 2, 0);
        due(3, x.denied());
        x.scuff(2, 1, 1, 1);
        due(3, x.denied());
        x.scuff(2, 0, 1, 1);
        due(0, x.denied());
        x.sweep();
        x.scuff(2, 1, 1, 0);
        due(4, x.denied());
        rule("depth 1 if back > 4; depth 0 if back < 5");
        x.sweep();
        x.scuff(1, 2, 1, 0);
        due(4, x.denied());
        due(4, x.count(1));
    }

    // ------------------------------------------------------------------ promises 44 to 49

    static int s;

    static int draw(int m) {
        s = (int) (((long) s * 1103 + 12345) % 1000003);
        return s % m;
    }

    static void month() {
        start(44);
        refused(-3, x.month(0, 1));
        refused(-1, x.month(-1, 1));
        refused(-1, x.month(1000001, 1));
        people(2);
        refused(-1, x.month(0, 0));
        refused(-1, x.month(0, 31));
        refused(-1, x.month(MIN, MAX));
        due(0, 0 * x.month(1000000, 30));
        due(0, x.status());
        // The same by calls: what is lent and repaid each day, with debts that grow.
        for (int seed = 0; seed < 3; seed++) {
            monthByCalls(seed * 333333 + 5, 9);
        }
        // Nothing of it stays.
        x = new DebtDoors();
        people(2);
        x.lend(0, 1, 10);
        x.month(77, 30);
        due(90, x.of(0, 0));
        due(1, x.count(1));
        due(0, x.count(13));
        due(1, x.count(5));
        // It ends at day 999: one day, as by n = 1.
        x.terms(0, 999);
        int one = x.month(4711, 1);
        due(one, x.month(4711, 30));
        x.terms(0, 998);
        int two = x.month(4711, 2);
        due(two, x.month(4711, 30));
    }

    static void monthByCalls(int seed, int days) {
        x = new DebtDoors();
        people(3);
        rule("grows 9 if age > 0; depth owes / 10");
        int lent = 0;
        int told = x.month(seed, days);
        int[] drawn = new int[9];
        for (int i = 0; i < 9; i++) drawn[i] = x.drawn(i / 3, i % 3);
        s = seed;
        for (int day = 0; day < days; day++) {
            int giver = draw(3), taker = draw(3), amount = draw(50) + 1;
            lent += Math.max(0, x.lend(giver, taker, amount));
            int debtor = draw(3), creditor = draw(3);
            x.repay(debtor, creditor, 9999);
            x.await();
        }
        due(lent, told);
        for (int p = 0; p < 3; p++) {
            due(x.of(p, 0), drawn[p * 3]);
            due(x.balance(p), drawn[p * 3 + 1]);
            due(Integer.bitCount(x.doors(p)), drawn[p * 3 + 2]);
        }
    }

    static void drawn() {
        start(45);
        due(NOTHING, x.drawn(0, 0));
        people(2);
        due(NOTHING, x.drawn(0, 0));
        x.debt(0, 1, 5);
        x.put(0, 0, 0);
        x.put(1, 0, 0);
        due(0, x.month(3, 1));
        due(0, x.drawn(0, 0));
        due(-5, x.drawn(0, 1));
        due(5, x.drawn(1, 1));
        due(0, x.drawn(0, 2));
        due(1, x.drawn(1, 2));
        due(NOTHING, x.drawn(0, 3));
        due(NOTHING, x.drawn(0, -1));
        due(NOTHING, x.drawn(2, 0));
        due(NOTHING, x.drawn(-1, 0));
        due(NOTHING, x.drawn(MAX, MAX));
        // Of the latest that was not refused, whatever comes then.
        x.image(0);
        x.person(7, 1, 1);
        due(NOTHING, x.drawn(2, 0));
        due(-1, x.month(3, 0));
        due(-5, x.drawn(0, 1));
        x.forgive(0);
        x.month(3, 1);
        int later = x.drawn(0, 1);
        x.back(0);
        due(later, x.drawn(0, 1));
    }

    static void image() {
        start(46);
        refused(-1, x.image(-1));
        refused(-1, x.image(2));
        due(0, x.image(0));
        due(0, x.status());
        people(1);
        due(0, x.image(1));
        due(0, x.back(0));
        due(0, x.count(0));
        due(0, x.image(0));
        due(0, x.back(1));
        due(1, x.count(0));
        // Kept anew.
        x.put(0, 0, 5);
        due(0, x.image(0));
        x.put(0, 0, 6);
        x.back(0);
        due(5, x.of(0, 0));
        x.back(1);
        due(100, x.of(0, 0));
    }

    static void back() {
        start(47);
        refused(-1, x.back(2));
        refused(-1, x.back(-1));
        refused(-2, x.back(0));
        people(3);
        x.terms(0, 5);
        x.terms(1, 6);
        x.debt(0, 1, 50);
        law("depth 3");
        law("grows 5");
        x.force(1);
        x.visit(0, 1, 2, 3);
        x.scuff(1, 2, 3, 0);
        due(0, x.image(0));
        x.person(1, 1, 1);
        x.put(0, 0, 1);
        x.put(1, 1, 1);
        x.put(2, 2, 99);
        x.terms(0, 9);
        x.terms(1, 9);
        x.forgive(0);
        x.cancel();
        x.visit(2, 1, 1, 1);
        x.visit(2, 1, 1, 1);
        x.sweep();
        law("bars");
        x.force(2);
        x.lend(1, 2, 30);
        tape(1, 2, 3);
        due(0, x.back(0));
        due(0, x.status());
        due(3, x.count(0));
        due(1, x.count(1));
        due(1, x.count(2));
        due(1, x.count(3));
        due(2, x.count(4));
        due(0, x.count(5));
        due(3, x.count(6));
        due(1, x.count(12));
        due(5, x.count(13));
        due(6, x.count(14));
        due(2, x.count(7));
        due(1, x.count(8));
        due(100, x.of(0, 0));
        due(3, x.of(1, 1));
        due(20, x.of(2, 2));
        due(50, x.owes(0, 1));
        due(5, x.at(0, 5));
        // The visit is that of 0 into 1, the scuff that of 1 out of the deepest room of 2.
        x.force(NONE);
        due(1, x.lendings(0));
        due(100, x.lendings(1));
        // All but 200 of 2 to 1, by which 1 would get into the deepest room.
        due(59, x.secret(NONE));
        x.sweep();
        x.scuff(1, 2, 1, 1);
        x.image(1);
        x.sweep();
        x.scuff(0, 2, 1, 1);
        due(140, x.secret(0));
        x.back(1);
        due(150, x.secret(0));
        backOfLaws();
    }

    /** A law told in the place of another one since does not stand in the image. */
    static void backOfLaws() {
        x = new DebtDoors();
        x.image(1);
        people(2);
        x.debt(0, 1, 50);
        x.image(0);
        law("grows 1");
        x.force(0);
        x.image(0);
        x.back(1);
        law("grows 2");
        x.back(0);
        due(1, x.at(0, 5));
        law("grows 3");
        x.image(0);
        law("grows 7");
        law("grows 8");
        x.image(1);
        due(0, x.back(0));
        due(2, law("grows 9"));
        x.force(2);
        due(9, x.at(0, 5));
        due(0, x.back(1));
        x.force(2);
        due(7, x.at(0, 5));
        due(0, x.back(0));
        due(2, x.count(4));
    }

    static void count() {
        start(48);
        for (int w : new int[] {-1, 15, MIN, MAX}) due(NONE, x.count(w));
        people(2);
        x.debt(0, 1, 5);
        x.visit(0, 1, 1, 1);
        x.visit(0, 1, 1, 1);
        x.scuff(0, 1, 1, 1);
        law("bars");
        x.force(0);
        x.await();
        x.lend(0, 1, 1);
        x.await();
        tape(1, 2, 3, 4, 5);
        int[] counts = {2, 2, 2, 1, 1, 3, 5, 0, 0, 0, 0, 0, 0, 2, 0};
        for (int w = 0; w < counts.length; w++) due(counts[w], x.count(w));
        // Refused: three by -1, two by -2, one by -3, one by -5, two by -6; what is NONE is not refused.
        x.debt(0, 0, 1);
        x.image(7);
        x.visit(0, 0, 1, 1);
        x.force(5);
        x.forgive(9);
        x.repay(1, 1, 1);
        for (int p = 2; p < 8; p++) x.person(1, 1, 1);
        x.end(0);
        x.row();
        x.law();
        x.need(0, 0, 9);
        x.end(99);
        x.image(0);
        x.debt(0, 0, 1);
        x.back(0);
        int[] refused = {4, 2, 1, 1, 2};
        for (int w = 0; w < 5; w++) due(refused[w], x.count(7 + w));
    }

    static void status() {
        start(49);
        due(0, x.status());
        due(0, x.status());
        x.person(1, 9, 1);
        due(-1, x.status());
        // Others leave it as it is.
        x.of(9, 9);
        x.end(-5);
        x.feed(0, 0, 0, 0, 0);
        x.cancel();
        x.sweep();
        x.count(0);
        x.plan(NONE);
        x.lendings(9);
        x.party(9);
        x.drawn(9, 9);
        x.fault();
        due(-1, x.status());
        x.force(NONE);
        due(0, x.status());
        x.end(0);
        int[][] calls = {
            {x.put(9, 0, 1), -2, x.status()}, {x.terms(9, 9), -1, x.status()}, {x.row(), -6, x.status()},
            {x.law(), -6, x.status()}, {x.orders(), -6, x.status()}, {x.force(3), -2, x.status()},
            {x.lend(0, 0, 1), -2, x.status()}, {x.repay(0, 0, 0), -1, x.status()}, {x.forgive(0), -2, x.status()},
            {x.sell(0, 0), -2, x.status()}, {x.await(), 0, x.status()}, {x.clear(), -3, x.status()},
            {x.undo(), 0, x.status()}, {x.undo(), -3, x.status()}, {x.visit(0, 1, 1, 1), -2, x.status()},
            {x.scuff(0, 1, 1, 1), -2, x.status()}, {x.month(1, 1), -3, x.status()}, {x.image(3), -1, x.status()},
            {x.image(1), 0, x.status()}, {x.back(0), -2, x.status()}, {x.back(1), 0, x.status()},
            {x.debt(0, 1, 1), -2, x.status()},
        };
        for (int[] call : calls) due(call[1], call[2]);
    }

    public static void main(String[] args) {
        newObject();
        person();
        put();
        of();
        debt();
        at();
        owes();
        terms();
        feed();
        end();
        row();
        blots();
        law();
        orders();
        fault();
        stopped();
        force();
        deep();
        doors();
        lend();
        repay();
        forgive();
        sell();
        await();
        clear();
        undo();
        need();
        visit();
        cancel();
        lendings();
        plan();
        thief();
        shut();
        ban();
        party();
        ring();
        cleared();
        balance();
        payments();
        scuff();
        sweep();
        secret();
        denied();
        month();
        drawn();
        image();
        back();
        count();
        status();
        System.out.println(wrong == 0 ? "all promises hold" : wrong + " answers are not as due");
        if (wrong != 0) System.exit(1);
    }
}
