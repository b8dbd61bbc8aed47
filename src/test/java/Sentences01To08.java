/** Promises 1 to 8: a new object, people, debts, terms. */
final class Sentences01To08 extends Sentences {

    // ------------------------------------------------------------------ promise 1

    @Says("An empty street.")
    static void p01_newObject_counts() {
        for (int w = 0; w < 15; w++) due(w == 12 ? NONE : 0, x.count(w));
        due(0, x.status());
        due(0, x.blots());
        due(NONE, x.fault());
        due(NONE, x.stopped());
    }

    @Says("An empty street.")
    static void p01_newObject_nobodyThere() {
        for (int n : new int[] {0, 6, 7, -1, MIN, MAX}) {
            due(NONE, x.of(n, 0));
            due(NONE, x.at(n, 0));
            due(NONE, x.owes(n, 0));
            due(NONE, x.owes(0, n));
            due(NONE, x.deep(n, 0));
            due(NONE, x.deep(0, n));
            due(NONE, x.doors(n));
            due(NONE, x.need(n, 0, 1));
            due(NONE, x.shut(n, 0, 1));
            due(NONE, x.thief(n, 0, 1, 0));
            due(NONE, x.ban(n));
            due(NOTHING, x.balance(n));
            due(NOTHING, x.drawn(n, 0));
        }
    }

    @Says("An empty street.")
    static void p01_newObject_whatIsNone() {
        due(NONE, x.party(0));
        due(NONE, x.party(1));
        due(NONE, x.ring(NONE));
        due(NONE, x.ring(0));
        due(NONE, x.cleared(0));
        due(NONE, x.cleared(1));
        due(0, x.payments());
        due(0, x.denied());
        due(0, x.secret(NONE));
        due(NONE, x.secret(0));
        due(0, x.cancel());
        due(0, x.sweep());
        due(0, x.lendings(0));
        due(0, x.lendings(1));
    }

    @Says("An empty street.")
    static void p01_newObject_oneRowOfNoVisits() {
        due(1, x.plan(NONE));
        due(NONE, x.plan(0));
        due(1, x.lendings(2));
        due(NONE, x.lendings(3));
    }

    // ------------------------------------------------------------------ promise 2

    @Says("A PERSON: the number.")
    static void p02_person_theNumber() {
        for (int p = 0; p < 7; p++) taken(p, x.person(p, p % 3 + 1, 2 * p));
        for (int p = 0; p < 7; p++) dues(new int[] {p, p % 3 + 1, 2 * p}, x.of(p, 0), x.of(p, 1), x.of(p, 2));
    }

    @Says("-1")
    static void p02_person_minus1_aNumberThatCantBe() {
        int[][] bad = {{-1, 1, 0}, {10000, 1, 0}, {0, 0, 0}, {0, 4, 0}, {0, -1, 0}, {0, 1, -1}, {0, 1, 100}, {-1, 0, -1}};
        for (int[] row : bad) refused(-1, x.person(row[0], row[1], row[2]));
        due(0, x.count(0));
        due(bad.length, x.count(7));
        taken(0, x.person(0, 1, 0));
    }

    @Says("-5")
    static void p02_person_minus5_sevenAreThere() {
        people(7);
        refused(-5, x.person(0, 1, 0));
        refused(-5, x.person(9999, 3, 99));
        refused(-1, x.person(0, 1, 100));
        due(7, x.count(0));
    }

    // ------------------------------------------------------------------ promise 3

    @Says("PURSE (what 0), ROOMS (1), WARY (2) of a PERSON: what it was.")
    static void p03_put_whatItWas() {
        taken(0, x.person(5, 2, 7));
        taken(1, x.person(6, 1, 8));
        taken(5, x.put(0, 0, 9999));
        taken(9999, x.put(0, 0, 0));
        taken(2, x.put(0, 1, 3));
        taken(3, x.put(0, 1, 1));
        taken(7, x.put(0, 2, 99));
        taken(99, x.put(0, 2, 0));
        dues(new int[] {0, 1, 0}, x.of(0, 0), x.of(0, 1), x.of(0, 2));
        dues(new int[] {6, 1, 8}, x.of(1, 0), x.of(1, 1), x.of(1, 2));
    }

    @Says("-1")
    static void p03_put_minus1_aNumberThatCantBe() {
        people(1);
        int[][] bad = {{0, -1}, {0, 10000}, {1, 0}, {1, 4}, {1, -1}, {2, -1}, {2, 100}, {-1, 1}, {3, 1}, {4, 0}};
        for (int[] row : bad) refused(-1, x.put(0, row[0], row[1]));
        dues(new int[] {100, 3, 0}, x.of(0, 0), x.of(0, 1), x.of(0, 2));
    }

    @Says("-2")
    static void p03_put_minus2_noSuchPerson() {
        refused(-2, x.put(0, 0, 1));
        people(1);
        refused(-2, x.put(1, 0, 1));
        refused(-2, x.put(-1, 1, 1));
        refused(-2, x.put(7, 2, 1));
        taken(100, x.put(0, 0, 1));
    }

    // ------------------------------------------------------------------ promise 4

    @Says("Of a PERSON 0 .. 2 as for put().")
    static void p04_of_0To2() {
        taken(0, x.person(12, 2, 34));
        dues(new int[] {12, 2, 34}, x.of(0, 0), x.of(0, 1), x.of(0, 2));
        x.person(9999, 3, 99);
        dues(new int[] {9999, 3, 99}, x.of(1, 0), x.of(1, 1), x.of(1, 2));
        dues(new int[] {12, 2, 34}, x.of(0, 0), x.of(0, 1), x.of(0, 2));
    }

    @Says("NONE.")
    static void p04_of_none() {
        people(2);
        for (int n : new int[] {-1, 3, 4, MIN, MAX}) due(NONE, x.of(0, n));
        for (int n : new int[] {-1, 2, 6, 7, MIN, MAX}) due(NONE, x.of(n, 0));
        due(0, x.status());
    }

    // ------------------------------------------------------------------ promise 5

    @Says("A DEBT of this DAY that was not lent now: its number.")
    static void p05_debt_itsNumber() {
        people(2, 7);
        x.terms(0, 31);
        taken(0, x.debt(0, 1, 1));
        taken(1, x.debt(1, 0, 9999));
        dues(new int[] {0, 1, 1, 31, 1, 0, 9999, 31}, debts());
        dues(new int[] {7, 7}, purses());
        x.forgive(0);
        taken(1, x.debt(0, 1, 3));
    }

    @Says("-1 (alike ones, too)")
    static void p05_debt_minus1_amountOrAlikeOnes() {
        people(2);
        for (int n : new int[] {0, -1, 10000, MIN, MAX}) refused(-1, x.debt(0, 1, n));
        for (int n : new int[] {0, 1, 2, 7, -1, MIN, MAX}) refused(-1, x.debt(n, n, 5));
        due(0, x.count(1));
        due(12, x.count(7));
    }

    @Says("-2")
    static void p05_debt_minus2_noSuchPerson() {
        people(2);
        for (int n : new int[] {2, 6, 7, -1, MIN, MAX}) {
            refused(-2, x.debt(0, n, 5));
            refused(-2, x.debt(n, 0, 5));
        }
        refused(-2, x.debt(2, 3, 5));
        due(0, x.count(1));
    }

    @Says("-5")
    static void p05_debt_minus5_sixteenAreThere() {
        people(2);
        debtsUpTo(15, 0, 1);
        taken(15, x.debt(0, 1, 5));
        refused(-5, x.debt(0, 1, 5));
        due(16, x.count(1));
        x.forgive(3);
        taken(15, x.debt(0, 1, 5));
    }

    // ------------------------------------------------------------------ promise 6

    @Says("Of a DEBT the DEBTOR (what 0), CREDITOR (1), AMOUNT (2), DAY (3), for what it is SOLD (4), how it GROWS (5).")
    static void p06_at_0To5() {
        people(3);
        x.terms(0, 4);
        x.debt(2, 0, 50);
        x.debt(1, 2, 9999);
        dues(new int[] {2, 0, 50, 4, 50, 0}, x.at(0, 0), x.at(0, 1), x.at(0, 2), x.at(0, 3), x.at(0, 4), x.at(0, 5));
        dues(new int[] {1, 2, 9999, 4, 9999, 0}, x.at(1, 0), x.at(1, 1), x.at(1, 2), x.at(1, 3), x.at(1, 4), x.at(1, 5));
        rule("sells amount/2+age;grows age*2");
        x.terms(0, 7);
        dues(new int[] {2, 0, 50, 4, 28, 6}, x.at(0, 0), x.at(0, 1), x.at(0, 2), x.at(0, 3), x.at(0, 4), x.at(0, 5));
    }

    @Says("NONE.")
    static void p06_at_none() {
        people(2);
        x.debt(0, 1, 5);
        for (int n : new int[] {-1, 6, 7, MIN, MAX}) due(NONE, x.at(0, n));
        for (int n : new int[] {-1, 1, 15, 16, MIN, MAX}) for (int w = 0; w < 6; w++) due(NONE, x.at(n, w));
        x.forgive(0);
        due(NONE, x.at(0, 0));
    }

    // ------------------------------------------------------------------ promise 7

    @Says("What one OWES another one.")
    static void p07_owes_what() {
        people(3);
        x.debt(0, 1, 5);
        x.debt(2, 1, 9);
        x.debt(0, 1, 6);
        x.debt(1, 0, 7);
        dues(new int[] {11, 7, 0, 9}, x.owes(0, 1), x.owes(1, 0), x.owes(0, 2), x.owes(2, 1));
    }

    @Says("NONE (the same one).")
    static void p07_owes_none() {
        people(2);
        x.debt(0, 1, 5);
        for (int n : new int[] {0, 1, 2, -1}) due(NONE, x.owes(n, n));
        for (int n : new int[] {2, 6, 7, -1, MIN, MAX}) {
            due(NONE, x.owes(0, n));
            due(NONE, x.owes(n, 0));
        }
    }

    // ------------------------------------------------------------------ promise 8

    @Says("A TERM: what it was.")
    static void p08_terms_whatItWas() {
        taken(0, x.terms(0, 999));
        taken(0, x.terms(1, 9));
        taken(999, x.terms(0, 5));
        taken(9, x.terms(1, 3));
        taken(5, x.terms(0, 0));
        taken(3, x.terms(1, 0));
    }

    @Says("-1.")
    static void p08_terms_minus1() {
        x.terms(0, 5);
        x.terms(1, 6);
        int[][] bad = {{0, -1}, {0, 1000}, {1, -1}, {1, 10}, {1, 999}, {2, 0}, {-1, 0}, {3, 5}};
        for (int[] row : bad) refused(-1, x.terms(row[0], row[1]));
        dues(new int[] {5, 6}, x.count(13), x.count(14));
    }
}
