/** Terms, part IV: months, rows, images. */
final class SentencesOfTerms4 extends Sentences {
    private static int s;

    private static int draw(int m) {
        s = (int) ((s * 1103L + 12345L) % 1000003L);
        return s % m;
    }

    /** The same month by calls: what is lent in it together. */
    private static int byCalls(int seed, int days) {
        s = seed;
        int lent = 0;
        int people = x.count(0);
        for (int day = 0; day < days; day++) {
            int giver = draw(people);
            int taker = draw(people);
            lent += Math.max(0, x.lend(giver, taker, draw(50) + 1));
            int debtor = draw(people);
            x.repay(debtor, draw(people), 9999);
            if (x.await() < 0) break;
        }
        return lent;
    }

    private static int[] drawn() {
        int[] all = new int[3 * x.count(0)];
        for (int i = 0; i < all.length; i++) all[i] = x.drawn(i / 3, i % 3);
        return all;
    }

    private static int[] standing() {
        int[] all = new int[3 * x.count(0)];
        for (int p = 0; p < x.count(0); p++) {
            all[p * 3] = x.of(p, 0);
            all[p * 3 + 1] = x.balance(p);
            all[p * 3 + 2] = Integer.bitCount(x.doors(p));
        }
        return all;
    }

    /** A month on paper is as the same month by calls. */
    private static void monthIsAsByCalls(int seed, int days) {
        int told = x.month(seed, days);
        due(0, x.status());
        int[] onPaper = drawn();
        due(byCalls(seed, days), told);
        dues(standing(), onPaper);
    }

    // ------------------------------------------------------------------ months

    @Says("A MONTH with a SEED, n days 1 .. 30, on paper")
    static void t4_month_days1To30() {
        people(2);
        refused(-1, x.month(5, 0));
        refused(-1, x.month(5, 31));
        refused(-1, x.month(5, -1));
        for (int n : new int[] {1, 2, 29, 30}) {
            anew();
            people(3);
            monthIsAsByCalls(5, n);
        }
    }

    @Says("on paper: s is")
    static void t4_month_onPaper() {
        people(3);
        x.debt(0, 1, 50);
        due(5, x.lend(2, 0, 5));
        due(0, x.month(77, 30) > 0 ? 0 : 1);
        dues(new int[] {0, 1, 50, 0, 0, 2, 5, 0}, debts());
        dues(new int[] {105, 100, 95}, purses());
        due(0, x.count(13));
        due(1, x.count(5));
        due(0, x.undo());
        dues(new int[] {100, 100, 100}, purses());
    }

    @Says("s is the SEED (0 .. 1,000,000)")
    static void t4_month_seeds0To1000000() {
        people(2);
        refused(-1, x.month(-1, 1));
        refused(-1, x.month(1000001, 1));
        refused(-1, x.month(1000002, 1));
        for (int seed : new int[] {0, 1, 999999, 1000000}) {
            anew();
            people(5);
            monthIsAsByCalls(seed, 3);
        }
    }

    @Says("a DRAW of m: s becomes (s times 1103 and 12345) modulo 1,000,003, it is s modulo m.")
    static void t4_month_firstDrawsByHand() {
        // Of seed 0: 12345, 628841, 621889, 953857, 113460. Modulo 3: 0 lends 2, 621889 modulo 50 is 39, so 40;
        // 1 repays 0.
        people(3);
        x.debt(1, 0, 30);
        due(40, x.month(0, 1));
        dues(new int[] {90, 40, 1, 70, 0, 0, 140, -40, 0}, drawn());
    }

    @Says("modulo 1,000,003")
    static void t4_month_drawsThatWrapAround() {
        // All along each month s is up to 1,000,002, and s times 1103 up to a thousand times as much.
        for (int seed = 999000; seed <= 999009; seed++) {
            anew();
            people(7);
            monthIsAsByCalls(seed, 30);
        }
    }

    @Says("Each day DRAWS of PEOPLE (who lends), of PEOPLE (to whom), of 50 (AMOUNT, less 1): it is lent, if it can be;")
    static void t4_month_lentIfItCanBe() {
        due(0, x.person(9999, 3, 0));
        // One alone draws oneself each time: nothing can be.
        taken(0, x.month(3, 30));
        dues(new int[] {9999, 0, 0}, drawn());
        anew();
        people(2, 0);
        taken(0, x.month(3, 30));
        anew();
        people(2, 9999);
        taken(0, x.month(3, 30));
        anew();
        people(2, 500);
        debtsUpTo(16, 0, 1);
        x.put(0, 0, 0);
        monthIsAsByCalls(3, 30);
        anew();
        people(4, 60);
        monthIsAsByCalls(12, 30);
    }

    @Says("of 50 (AMOUNT, less 1)")
    static void t4_month_amounts1To50() {
        people(2);
        // Of 927: 34823, 422000, 476950, so that 1 lends 0 the least; of 48: 65289, 25896, 575549, the most.
        taken(1, x.month(927, 1));
        taken(50, x.month(48, 1));
        x.put(1, 0, 49);
        taken(0, x.month(48, 1));
        x.put(1, 0, 50);
        taken(50, x.month(48, 1));
    }

    @Says("DRAWS of PEOPLE (who repays), of PEOPLE (whom): all that can be;")
    static void t4_month_repaidAllThatCanBe() {
        boolean repaid = false;
        for (int seed = 0; seed < 12; seed++) {
            anew();
            people(2, 0);
            x.put(0, 0, 300);
            x.debt(0, 1, 90);
            x.debt(0, 1, 80);
            int before = x.balance(1);
            monthIsAsByCalls(seed, 2);
            repaid |= x.balance(1) <= before - 170;
        }
        due(0, repaid ? 0 : 1);
    }

    @Says("all that can be;")
    static void t4_month_repaidAllOfAPurse() {
        people(2, 0);
        x.put(0, 0, 9999);
        x.debt(0, 1, 9999);
        // Of 3: 15654, 278656 (0 lends 0), 368992; 9300, 270215 (0 repays 1).
        taken(0, x.month(3, 1));
        dues(new int[] {0, 0, 0, 9999, 0, 0}, drawn());
        x.put(0, 0, 9998);
        x.put(1, 0, 5000);
        taken(0, x.month(3, 1));
        dues(new int[] {4999, -5000, 0, 9999, 5000, 1}, drawn());
    }

    @Says("on paper: s is")
    static void t4_month_onPaperOfAllSixteenDebts() {
        people(3, 500);
        sixteen();
        int[] debts = debts();
        for (int seed = 0; seed < 9; seed++) x.month(seed * 1000, 30);
        dues(debts, debts());
        dues(new int[] {500, 500, 500}, purses());
    }

    /** Debts in all rows between three people, no two alike. */
    private static void sixteen() {
        for (int d = 0; d < 16; d++) {
            x.terms(0, d);
            x.debt(d % 3, (d + 1 + d % 2) % 3, 10 + d);
        }
    }

    @Says("then one waits (beyond DAY 999: it ends there).")
    static void t4_month_beyond999ItEnds() {
        for (int day = 996; day <= 999; day++) {
            for (int days = 1; days <= 5; days++) {
                anew();
                people(3, 1000);
                rule("grows 20;depth owes/day");
                x.debt(0, 1, 500);
                x.terms(0, day);
                monthIsAsByCalls(4711, days);
                due(Math.min(999, day + days), x.count(13));
            }
        }
        anew();
        people(3);
        x.terms(0, 999);
        int one = x.month(4711, 1);
        due(one, x.month(4711, 30));
        due(999, x.count(13));
    }

    @Says("then one waits")
    static void t4_month_debtsGrowByTheLaw() {
        people(3, 0);
        rule("grows day+10");
        x.debt(0, 1, 100);
        x.debt(2, 1, 9990);
        taken(0, x.month(9, 2));
        // 100, 111, 124; 9,990, 9,999.
        due(-124, x.drawn(0, 1));
        due(-9999, x.drawn(2, 1));
        due(124 + 9999, x.drawn(1, 1));
    }

    // ------------------------------------------------------------------ rows

    @Says("A ROW: the TAPE's bytes by fours: DEBTOR, CREDITOR, AMOUNT (two bytes, the higher ahead): a DEBT of this DAY;")
    static void t4_row_byFours() {
        people(7);
        x.terms(0, 12);
        tape(0, 6, 0, 1, 6, 0, 0, 255, 5, 4, 1, 0, 3, 2, 0x27, 0x0F);
        taken(4, x.row());
        dues(new int[] {0, 6, 1, 12, 6, 0, 255, 12, 5, 4, 256, 12, 3, 2, 9999, 12}, debts());
        due(0, x.blots());
    }

    @Says("one that can't be")
    static void t4_row_blotsThatCantBe() {
        people(2);
        tape(0, 1, 0, 0, 0, 1, 0x27, 0x10, 0, 1, 255, 255, 1, 1, 0, 5, 0, 2, 0, 5, 2, 0, 0, 5, 255, 0, 0, 5, 0, 255, 0, 5);
        taken(0, x.row());
        due(8, x.blots());
        due(0, x.count(1));
    }

    @Says("one within which the TAPE ends")
    static void t4_row_blotsWithinWhichTheTapeEnds() {
        people(2);
        int[] bytes = {0, 1, 0, 9, 0, 1, 0, 8};
        for (int n = 1; n <= 8; n++) {
            tape(java.util.Arrays.copyOf(bytes, n));
            taken(n / 4, x.row());
            due(n % 4 == 0 ? 0 : 1, x.blots());
        }
        due(6, x.count(1));
    }

    @Says("one within which the TAPE ends")
    static void t4_row_bytesBehindTheEndAreNotRead() {
        people(2);
        tape(0, 1, 0, 9, 0, 1, 0, 8);
        due(7, x.end(7));
        taken(1, x.row());
        due(1, x.blots());
        due(1, x.count(1));
    }

    @Says("one for which there is no room is BLOT: none.")
    static void t4_row_blotsForWhichThereIsNoRoom() {
        people(2);
        debtsUpTo(14, 0, 1);
        tape(0, 1, 0, 1, 1, 1, 0, 1, 0, 1, 0, 2, 0, 1, 0, 3, 0, 1, 0, 4);
        taken(2, x.row());
        due(3, x.blots());
        due(16, x.count(1));
        due(2, x.at(15, 2));
        tape(0, 1, 0, 1);
        taken(0, x.row());
        due(1, x.blots());
    }

    @Says("the TAPE's bytes by fours")
    static void t4_row_aFullTape() {
        people(2);
        int[] bytes = new int[400];
        for (int i = 0; i < 400; i += 4) {
            bytes[i + 1] = 1;
            bytes[i + 3] = i / 4 + 1;
        }
        tape(bytes);
        taken(16, x.row());
        due(84, x.blots());
        due(16, x.at(15, 2));
    }

    // ------------------------------------------------------------------ images

    @Says("IMAGES 0, 1 keep all but the TAPE, FAULT, BLOT, where ORDERS stopped, what can be undone (nothing, behind back()), the latest MONTH;")
    static void t4_images_keepAll() {
        people(3);
        x.put(1, 1, 2);
        x.put(2, 2, 42);
        x.terms(0, 5);
        x.terms(1, 6);
        x.debt(0, 1, 150);
        x.debt(2, 0, 30);
        law("depth 2");
        law("grows 5;sells 9");
        x.force(1);
        x.visit(1, 0, 2, 7);
        x.scuff(2, 1, 1, 0);
        for (int k = 0; k < 2; k++) due(0, x.image(k));
        String before = all();
        for (int k = 0; k < 2; k++) {
            x.person(7, 1, 1);
            x.put(0, 0, 1);
            x.put(1, 1, 3);
            x.put(2, 2, 0);
            x.terms(0, 900);
            x.terms(1, 0);
            x.forgive(0);
            x.debt(1, 2, 8);
            x.debt(1, 0, 8);
            law("bars");
            x.force(2);
            x.cancel();
            x.visit(0, 1, 3, 0);
            x.visit(0, 1, 3, 0);
            x.sweep();
            x.scuff(0, 1, 3, 1);
            x.scuff(0, 1, 3, 1);
            taken(0, x.back(k));
            same(before);
        }
    }

    @Says("keep all but the TAPE")
    static void t4_images_notTheTape() {
        tape(1, 2, 3);
        x.image(0);
        text("bars if");
        x.back(0);
        due(7, x.count(6));
        refused(-6, x.law());
        due(7, x.fault());
    }

    @Says("the TAPE, FAULT, BLOT, where ORDERS stopped")
    static void t4_images_notFaultBlotStopped() {
        people(2);
        lawFault(4, "bars,");
        refused(-3, orders("wait;lend 0 to 0 of 1"));
        tape(1, 2, 3, 4, 5);
        due(0, x.row());
        lawFault(4, "bars,");
        x.image(0);
        tape(1);
        due(0, x.row());
        refused(-3, orders("wait;wait;wait;lend 0 to 0 of 1"));
        lawFault(0, "junk");
        x.back(0);
        due(0, x.fault());
        due(1, x.blots());
        due(3, x.stopped());
    }

    @Says("what can be undone (nothing, behind back())")
    static void t4_images_nothingCanBeUndoneBehindBack() {
        people(2);
        due(5, x.lend(0, 1, 5));
        due(0, x.image(0));
        due(1, x.count(5));
        due(5, x.lend(0, 1, 5));
        taken(0, x.back(0));
        due(0, x.count(5));
        refused(-3, x.undo());
        due(5, x.lend(0, 1, 5));
        due(0, x.undo());
        due(5, x.owes(1, 0));
        refused(-3, x.undo());
    }

    @Says("the latest MONTH;")
    static void t4_images_notTheLatestMonth() {
        people(2, 0);
        x.debt(0, 1, 5);
        x.month(1, 1);
        x.image(0);
        x.debt(0, 1, 6);
        x.month(1, 1);
        x.back(0);
        due(5, x.owes(0, 1));
        due(-11, x.drawn(0, 1));
        anew();
        x.image(1);
        people(2, 7);
        x.month(1, 1);
        x.back(1);
        due(0, x.count(0));
        due(14, x.drawn(0, 0) + x.drawn(1, 0));
    }

    @Says("BACK to one all that it keeps is as it was then (IMAGES stay).")
    static void t4_images_stay() {
        people(1);
        x.image(0);
        x.put(0, 0, 7);
        x.image(1);
        for (int i = 0; i < 3; i++) {
            due(0, x.back(0));
            due(100, x.of(0, 0));
            x.put(0, 0, 50);
            due(0, x.back(1));
            due(7, x.of(0, 0));
            x.put(0, 0, 60);
        }
        // Kept anew what there is then.
        x.image(0);
        x.put(0, 0, 61);
        due(0, x.back(0));
        due(60, x.of(0, 0));
        due(0, x.back(1));
        due(7, x.of(0, 0));
    }

    /** All rooms for all things taken; another time all otherwise. */
    private static void fill(int how) {
        for (int p = 0; p < 7; p++) x.person(100 + p + how, 3 - how, 90 + p + how);
        for (int d = 0; d < 16; d++) {
            if (d == 15) x.terms(0, 50 + how);
            x.debt((d + how) % 7, (d + 1 + 2 * how) % 7, 20 + d + how);
        }
        for (int n = 0; n < 6; n++) law("grows " + (n + 1 + 10 * how));
        for (int n = 0; n < 8; n++) {
            x.visit(n % 7, (n + 3 + n / 7) % 7, n == 7 - how ? 2 : 1, n);
            x.scuff(n % 7, (n + 2) % 7, 3, how);
        }
        x.force(5 - how);
    }

    @Says("BACK to one all that it keeps is as it was then")
    static void t4_images_ofAFullStreet() {
        x.image(1);
        fill(0);
        x.image(0);
        String before = all();
        int[] row = new int[8];
        for (int i = 0; i < 8; i++) row[i] = x.lendings(3 + i);
        taken(0, x.back(1));
        fill(1);
        taken(0, x.back(0));
        same(before);
        for (int i = 0; i < 8; i++) due(row[i], x.lendings(3 + i));
        for (int n = 0; n < 6; n++) {
            x.force(n);
            due(n + 1, x.at(15, 5));
        }
    }

    @Says("BACK to one all that it keeps is as it was then")
    static void t4_images_ofAnEmptyStreet() {
        x.image(0);
        people(7);
        debtsUpTo(16, 0, 1);
        for (int i = 0; i < 6; i++) law("bars");
        x.force(5);
        for (int i = 0; i < 8; i++) {
            x.visit(0, 1, 1, 1);
            x.scuff(0, 1, 1, 1);
        }
        x.image(1);
        taken(0, x.back(0));
        for (int w = 0; w < 6; w++) due(0, x.count(w));
        due(NONE, x.count(12));
        due(NONE, x.of(0, 0));
        taken(0, x.back(1));
        dues(new int[] {7, 16, 8, 8, 6, 0}, x.count(0), x.count(1), x.count(2), x.count(3), x.count(4), x.count(5));
        due(5, x.count(12));
    }
}
