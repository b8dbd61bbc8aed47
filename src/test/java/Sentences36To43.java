/** Promises 36 to 43: rings, balances, payments, scuffs. */
final class Sentences36To43 extends Sentences {

    private static void owing(int[][] pairs) {
        for (int[] pair : pairs) x.debt(pair[0], pair[1], pair.length > 2 ? pair[2] : 1);
    }

    // ------------------------------------------------------------------ promises 36, 37

    @Says("A RING: how many PEOPLE (i NONE), the i-th.")
    static void p36_ring_theIth() {
        people(7);
        owing(new int[][] {{6, 2}, {2, 5}, {5, 6}, {0, 1}, {1, 3}});
        dues(new int[] {3, 2, 5, 6}, x.ring(NONE), x.ring(0), x.ring(1), x.ring(2));
        owing(new int[][] {{4, 5}, {5, 4}});
        dues(new int[] {2, 4, 5, NONE}, x.ring(NONE), x.ring(0), x.ring(1), x.ring(2));
    }

    @Says("how many PEOPLE (i NONE), the i-th")
    static void p36_ring_ofAllSeven() {
        people(7);
        int[] row = {0, 5, 1, 6, 2, 4, 3};
        for (int i = 0; i < 7; i++) {
            due(NONE, x.ring(NONE));
            x.debt(row[i], row[(i + 1) % 7], 1);
        }
        due(7, x.ring(NONE));
        for (int i = 0; i < 7; i++) due(row[i], x.ring(i));
        due(NONE, x.ring(7));
    }

    @Says("NONE (none, too).")
    static void p36_ring_none() {
        due(NONE, x.ring(NONE));
        people(3);
        owing(new int[][] {{0, 1}, {0, 2}, {1, 2}});
        for (int i = -1; i < 4; i++) due(NONE, x.ring(i));
        owing(new int[][] {{2, 1}});
        for (int n : new int[] {-2, 2, 3, 7, MIN, MAX}) due(NONE, x.ring(n));
        dues(new int[] {2, 1, 2}, x.ring(NONE), x.ring(0), x.ring(1));
        x.forgive(3);
        due(NONE, x.ring(NONE));
    }

    @Says("By CLEARING the RING: by how much (what 0), into how many HOUSES how many visitors get less DEEP, all pairs together (1).")
    static void p37_cleared_whats() {
        people(3);
        owing(new int[][] {{0, 1, 105}, {1, 2, 250}, {2, 0, 6}});
        // 0 to 1: 99, less deep; 1 to 2: 244, as deep; 2 to 0: 0, less deep.
        dues(new int[] {6, 2}, x.cleared(0), x.cleared(1));
        dues(new int[] {0, 1, 105, 0, 1, 2, 250, 0, 2, 0, 6, 0}, debts());
        due(0, x.count(5));
    }

    @Says("into how many HOUSES how many visitors get less DEEP, all pairs together (1)")
    static void p37_cleared_allPairsLessDeepAlone() {
        people(3);
        owing(new int[][] {{0, 1, 50}, {1, 0, 20}});
        rule("depth 1 if back<40;depth 2 if back<15;depth 0 if owner=2;depth 3 if owner=1 and owes=20");
        // 1 into 0: back 20 to 0, from 1 to 2; 0 into 1: from 3 to 1; 2 into 0, into 1: as deep.
        dues(new int[] {20, 1}, x.cleared(0), x.cleared(1));
        rule("depth 3");
        due(0, x.cleared(1));
    }

    @Says("into how many HOUSES how many visitors")
    static void p37_cleared_aRingOfSeven() {
        people(7);
        for (int p = 0; p < 7; p++) x.debt(p, (p + 1) % 7, 9999);
        dues(new int[] {9999, 7}, x.cleared(0), x.cleared(1));
    }

    @Says("NONE (none).")
    static void p37_cleared_none() {
        dues(new int[] {NONE, NONE}, x.cleared(0), x.cleared(1));
        people(2);
        owing(new int[][] {{0, 1}});
        dues(new int[] {NONE, NONE}, x.cleared(0), x.cleared(1));
        owing(new int[][] {{1, 0}});
        dues(new int[] {1, 2}, x.cleared(0), x.cleared(1));
        for (int n : new int[] {-1, 2, 3, MIN, MAX}) due(NONE, x.cleared(n));
    }

    // ------------------------------------------------------------------ promises 38, 39

    @Says("A BALANCE.")
    static void p38_balance_aBalance() {
        people(7);
        due(0, x.balance(6));
        owing(new int[][] {{0, 6, 30}, {1, 6, 9999}, {6, 2, 7}});
        dues(new int[] {-30, -9999, 7, 10022}, x.balance(0), x.balance(1), x.balance(2), x.balance(6));
    }

    @Says("NOTHING.")
    static void p38_balance_nothing() {
        due(NOTHING, x.balance(0));
        people(2);
        for (int n : new int[] {2, 6, 7, -1, MIN, MAX}) due(NOTHING, x.balance(n));
        // -1 is a BALANCE, so that there is none by another number.
        x.debt(0, 1, 1);
        due(-1, x.balance(0));
    }

    @Says("The fewest PAYMENTS.")
    static void p39_payments_none() {
        due(0, x.payments());
        people(1);
        due(0, x.payments());
        x.person(1, 1, 1);
        due(0, x.payments());
        owing(new int[][] {{0, 1, 9}, {1, 0, 9}});
        due(0, x.payments());
    }

    @Says("The fewest PAYMENTS.")
    static void p39_payments_ofSeven() {
        people(7);
        for (int p = 1; p < 7; p++) x.debt(0, p, p == 6 ? 40 : 1 << p);
        due(6, x.payments());
        anew();
        people(6);
        // -3, 3, -5, 5, -7, 7: three pairs, though nobody owes the one that it fits.
        owing(new int[][] {{0, 3, 3}, {2, 5, 5}, {4, 1, 3}, {4, 5, 2}, {4, 3, 2}});
        dues(new int[] {-3, 3, -5, 5, -7, 7}, x.balance(0), x.balance(1), x.balance(2), x.balance(3), x.balance(4), x.balance(5));
        due(3, x.payments());
    }

    @Says("The fewest PAYMENTS.")
    static void p39_payments_largerGroupsThatAreEven() {
        people(7);
        // -6 6; -3 -4 7; 0; 0 is none. Then all but the last: -1 is given from group to group.
        owing(new int[][] {{0, 1, 6}, {2, 4, 3}, {3, 4, 4}});
        due(3, x.payments());
        owing(new int[][] {{5, 6, 7}});
        due(4, x.payments());
        owing(new int[][] {{6, 0, 1}});
        // -5 6 and -7 6, -3 -4 7: -5 -7 6 6 is even by three.
        due(5, x.payments());
    }

    // ------------------------------------------------------------------ promises 40, 41

    @Says("A SCUFF: how many there are.")
    static void p40_scuff_howMany() {
        people(3);
        taken(1, x.scuff(0, 1, 1, 0));
        taken(2, x.scuff(0, 1, 1, 1));
        taken(3, x.scuff(2, 0, 3, 1));
        due(3, x.count(3));
    }

    @Says("-1 (the same one, too)")
    static void p40_scuff_minus1() {
        people(2);
        for (int n : new int[] {0, 1, 2, -1, MAX}) refused(-1, x.scuff(n, n, 1, 0));
        for (int n : new int[] {0, 4, -1, MIN, MAX}) refused(-1, x.scuff(0, 1, n, 0));
        for (int n : new int[] {-1, 2, MIN, MAX}) refused(-1, x.scuff(0, 1, 1, n));
        due(0, x.count(3));
    }

    @Says("-2")
    static void p40_scuff_minus2() {
        people(2);
        for (int n : new int[] {2, 6, 7, -1, MIN, MAX}) {
            refused(-2, x.scuff(0, n, 1, 0));
            refused(-2, x.scuff(n, 0, 1, 0));
        }
        due(0, x.count(3));
    }

    @Says("-5")
    static void p40_scuff_minus5() {
        people(2);
        for (int n = 1; n <= 8; n++) taken(n, x.scuff(0, 1, 1, 0));
        refused(-5, x.scuff(0, 1, 1, 0));
        due(8, x.sweep());
        taken(1, x.scuff(0, 1, 1, 0));
    }

    @Says("SCUFFS are none then: how many there were.")
    static void p41_sweep_howManyThereWere() {
        due(0, x.sweep());
        people(2);
        for (int n = 1; n <= 8; n++) x.scuff(0, 1, 1, n % 2);
        due(0, x.secret(NONE));
        due(8, x.sweep());
        due(0, x.count(3));
        due(20, x.secret(NONE));
        due(0, x.sweep());
    }

    // ------------------------------------------------------------------ promises 42, 43

    @Says("SECRETS: how many (i NONE), the i-th as DEBTOR times 70, CREDITOR times 10, AMOUNT by 20 less 1.")
    static void p42_secret_theIth() {
        people(7);
        due(420, x.secret(NONE));
        int i = 0;
        for (int debtor = 0; debtor < 7; debtor++) {
            for (int creditor = 0; creditor < 7; creditor++) {
                if (debtor == creditor) continue;
                due(debtor * 70 + creditor * 10, x.secret(i));
                due(debtor * 70 + creditor * 10 + 9, x.secret(i + 9));
                i += 10;
            }
        }
        due(NONE, x.secret(420));
    }

    @Says("AMOUNT by 20 less 1")
    static void p42_secret_amounts() {
        people(3);
        x.debt(2, 0, 41);
        x.scuff(0, 2, 2, 1);
        x.scuff(0, 2, 3, 0);
        // 59 more at least, 158 at most: 60 .. 140.
        due(5, x.secret(NONE));
        for (int i = 0; i < 5; i++) due(140 + 2 + i, x.secret(i));
        due(NONE, x.secret(5));
        x.debt(2, 0, 200);
        due(0, x.secret(NONE));
        due(NONE, x.secret(0));
    }

    @Says("SECRETS: how many (i NONE)")
    static void p42_secret_whatIsOwedBackIsAsked() {
        people(3);
        rule("depth 1 if back=100;depth 0 if not back=100");
        x.scuff(0, 1, 1, 1);
        dues(new int[] {1, 4}, x.secret(NONE), x.secret(0) - 10);
        x.scuff(1, 0, 1, 1);
        due(0, x.secret(NONE));
    }

    @Says("NONE.")
    static void p42_secret_none() {
        due(NONE, x.secret(0));
        people(2);
        for (int n : new int[] {20, 21, -2, MIN, MAX}) due(NONE, x.secret(n));
        due(79, x.secret(19));
        x.scuff(0, 1, 1, 1);
        x.scuff(0, 1, 1, 0);
        dues(new int[] {0, NONE}, x.secret(NONE), x.secret(0));
    }

    @Says("DENIED: DEBTS, as bits.")
    static void p43_denied_asBits() {
        due(0, x.denied());
        people(3);
        due(0, x.denied());
        owing(new int[][] {{0, 1, 60}, {1, 0, 60}, {0, 1, 50}, {0, 2, 60}, {0, 1, 9}});
        due(31, x.denied());
        x.scuff(1, 0, 2, 0);
        due(1 + 4, x.denied());
        x.scuff(1, 0, 1, 1);
        due(1 + 4, x.denied());
        x.scuff(1, 0, 2, 1);
        due(0, x.denied());
        x.sweep();
        x.scuff(0, 1, 1, 0);
        due(2, x.denied());
    }

    @Says("DENIED: DEBTS, as bits.")
    static void p43_denied_allSixteenStay() {
        people(2);
        for (int d = 0; d < 16; d++) x.debt(0, 1, 10);
        String before = all();
        x.scuff(1, 0, 2, 1);
        due(65535, x.denied());
        x.scuff(1, 0, 2, 0);
        due(0, x.denied());
        x.sweep();
        same(before);
    }
}
