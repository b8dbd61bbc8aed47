/** Terms, part I: people, debts, visits, scuffs, terms, refusals; and what stands outside of the parts. */
final class SentencesOfTerms1 extends Sentences {

    // ------------------------------------------------------------------ the constants, the calls

    @Says("`NONE = -1`: There is none.")
    static void c0_constants_none() {
        due(-1, DebtDoors.NONE);
    }

    @Says("`NOTHING = -1000000`: What is not there, where it could be below 0.")
    static void c0_constants_nothing() {
        due(-1000000, DebtDoors.NOTHING);
    }

    @Says("An object is used for at most 512 calls after it has been made; what later calls answer is free.")
    static void c0_calls_512() {
        due(0, x.person(9999, 3, 0));
        due(1, x.person(0, 3, 0));
        for (int call = 3; call <= 511; call += 2) {
            due(5, x.lend(0, 1, 5));
            due(0, x.undo());
        }
        due(2, x.count(0));
    }

    // ------------------------------------------------------------------ people

    @Says("PEOPLE 0 .. 6 (7 at most)")
    static void t1_people_sevenAtMost() {
        for (int p = 0; p <= 6; p++) taken(p, x.person(10 + p, 1, 1));
        due(7, x.count(0));
        due(16, x.of(6, 0));
        refused(-5, x.person(1, 1, 1));
        due(7, x.count(0));
        due(NONE, x.of(7, 0));
    }

    @Says("each with an own HOUSE")
    static void t1_people_eachWithAnOwnHouse() {
        for (int rooms = 1; rooms <= 3; rooms++) x.person(0, rooms, 0);
        rule("depth 3");
        for (int p = 0; p < 3; p++) {
            due(p + 1, x.deep(p, (p + 1) % 3));
            due(7 & ~(1 << p), x.doors(p));
        }
    }

    @Says("PURSE 0 .. 9,999")
    static void t1_purse_0To9999() {
        taken(0, x.person(0, 1, 0));
        taken(1, x.person(9999, 1, 0));
        due(0, x.of(0, 0));
        due(9999, x.of(1, 0));
        refused(-1, x.person(-1, 1, 0));
        refused(-1, x.person(10000, 1, 0));
        due(2, x.count(0));
    }

    @Says("ROOMS 1 .. 3")
    static void t1_rooms_1To3() {
        taken(0, x.person(0, 1, 0));
        taken(1, x.person(0, 3, 0));
        due(1, x.of(0, 1));
        due(3, x.of(1, 1));
        refused(-1, x.person(0, 0, 0));
        refused(-1, x.person(0, 4, 0));
        due(2, x.count(0));
    }

    @Says("WARY 0 .. 99")
    static void t1_wary_0To99() {
        taken(0, x.person(0, 1, 0));
        taken(1, x.person(0, 1, 99));
        due(0, x.of(0, 2));
        due(99, x.of(1, 2));
        refused(-1, x.person(0, 1, -1));
        refused(-1, x.person(0, 1, 100));
        due(2, x.count(0));
    }

    // ------------------------------------------------------------------ debts

    @Says("DEBTS 0 .. 15 (16 at most")
    static void t1_debts_sixteenAtMost() {
        people(2);
        for (int d = 0; d <= 15; d++) taken(d, x.debt(0, 1, d + 1));
        due(16, x.at(15, 2));
        refused(-5, x.debt(0, 1, 1));
        refused(-5, x.lend(0, 1, 1));
        tape(0, 1, 0, 1);
        taken(0, x.row());
        due(16, x.count(1));
        due(NONE, x.at(16, 0));
    }

    @Says("in the order in which they came)")
    static void t1_debts_inTheOrderInWhichTheyCame() {
        people(3);
        due(0, x.debt(2, 1, 30));
        due(20, x.lend(0, 1, 20));
        tape(0, 2, 0, 10, 2, 0, 0, 5);
        due(2, x.row());
        due(4, x.debt(0, 1, 1));
        due(1, orders("lend 0 to 2 of 2"));
        dues(new int[] {2, 1, 30, 0, 1, 0, 20, 0, 0, 2, 10, 0, 2, 0, 5, 0, 0, 1, 1, 0, 2, 0, 2, 0}, debts());
    }

    @Says("a DEBTOR, a CREDITOR (unlike)")
    static void t1_debts_debtorAndCreditorUnlike() {
        people(7);
        for (int p = 0; p < 7; p++) refused(-1, x.debt(p, p, 5));
        due(0, x.count(1));
        taken(0, x.debt(6, 5, 5));
        due(6, x.at(0, 0));
        due(5, x.at(0, 1));
    }

    @Says("an AMOUNT 1 .. 9,999")
    static void t1_debts_amount1To9999() {
        people(2);
        taken(0, x.debt(0, 1, 1));
        taken(1, x.debt(0, 1, 9999));
        due(1, x.at(0, 2));
        due(9999, x.at(1, 2));
        refused(-1, x.debt(0, 1, 0));
        refused(-1, x.debt(0, 1, 10000));
        refused(-1, x.debt(0, 1, -1));
        due(2, x.count(1));
    }

    @Says("a DAY; one that is paid")
    static void t1_debts_aDayEach() {
        people(2);
        x.debt(0, 1, 1);
        x.terms(0, 999);
        x.debt(0, 1, 2);
        x.terms(0, 7);
        x.debt(0, 1, 3);
        for (int d = 0; d < 3; d++) due(new int[] {0, 999, 7}[d], x.at(d, 3));
    }

    @Says("one that is paid goes, those behind it move up")
    static void t1_debts_onePaidByRepayGoes() {
        people(3);
        x.debt(0, 1, 10);
        x.debt(1, 2, 20);
        x.debt(0, 2, 30);
        due(9, x.repay(0, 1, 9));
        due(3, x.count(1));
        due(1, x.repay(0, 1, 1));
        dues(new int[] {1, 2, 20, 0, 0, 2, 30, 0}, debts());
        due(30, x.repay(0, 2, 30));
        dues(new int[] {1, 2, 20, 0}, debts());
        due(20, x.repay(1, 2, 20));
        due(0, x.count(1));
        due(NONE, x.at(0, 2));
    }

    @Says("those behind it move up")
    static void t1_debts_thoseBehindOneInTheMiddleMoveUp() {
        people(4);
        for (int d = 0; d < 16; d++) {
            x.terms(0, 100 + d);
            x.debt(d % 3, 3, d + 1);
        }
        due(8, x.forgive(7));
        due(15, x.count(1));
        for (int d = 0; d < 15; d++) {
            int was = d < 7 ? d : d + 1;
            dues(new int[] {was % 3, 3, was + 1, 100 + was}, x.at(d, 0), x.at(d, 1), x.at(d, 2), x.at(d, 3));
        }
        due(15, x.debt(0, 1, 77));
    }

    @Says("OWES: what one is the DEBTOR of to another one, all AMOUNTS.")
    static void t1_owes_allAmounts() {
        people(3);
        due(0, x.owes(0, 1));
        for (int d = 0; d < 14; d++) x.debt(0, 1, 9999);
        x.debt(1, 0, 5);
        x.debt(0, 2, 7);
        due(139986, x.owes(0, 1));
        due(5, x.owes(1, 0));
        due(7, x.owes(0, 2));
        due(0, x.owes(2, 0));
    }

    @Says("OWES: what one is the DEBTOR of")
    static void t1_owes_mostThatCanBe() {
        people(2);
        for (int d = 0; d < 16; d++) x.debt(1, 0, 9999);
        due(159984, x.owes(1, 0));
        due(159984, x.balance(0));
        due(-159984, x.balance(1));
    }

    // ------------------------------------------------------------------ visits, scuffs

    @Says("VISITS 0 .. 7 (8 at most) are told")
    static void t1_visits_eightAtMost() {
        people(2);
        for (int n = 1; n <= 8; n++) taken(n, x.visit(0, 1, 1, 0));
        refused(-5, x.visit(0, 1, 1, 0));
        due(8, x.count(2));
    }

    @Says("a VISITOR, the HOUSE of another one, a ROOM 1 .. 3, SETTLE")
    static void t1_visits_theHouseOfAnotherOne() {
        people(2);
        refused(-1, x.visit(0, 0, 1, 0));
        refused(-1, x.visit(1, 1, 1, 0));
        taken(1, x.visit(1, 0, 1, 0));
    }

    @Says("a ROOM 1 .. 3, SETTLE 0 .. 999")
    static void t1_visits_room1To3() {
        people(2);
        refused(-1, x.visit(0, 1, 0, 0));
        refused(-1, x.visit(0, 1, 4, 0));
        taken(1, x.visit(0, 1, 1, 0));
        taken(2, x.visit(0, 1, 3, 0));
    }

    @Says("a ROOM 1 .. 3, SETTLE")
    static void t1_visits_roomsAboveTheHousesOwnAreTold() {
        due(0, x.person(5, 1, 0));
        due(1, x.person(5, 1, 0));
        taken(1, x.visit(0, 1, 3, 0));
        due(0, x.plan(NONE));
        due(NONE, x.lendings(0));
    }

    @Says("SETTLE 0 .. 999")
    static void t1_visits_settle0To999() {
        people(2);
        refused(-1, x.visit(0, 1, 1, -1));
        refused(-1, x.visit(0, 1, 1, 1000));
        taken(1, x.visit(0, 1, 1, 0));
        taken(2, x.visit(0, 1, 1, 999));
    }

    @Says("SCUFFS, 8 at most")
    static void t1_scuffs_eightAtMost() {
        people(2);
        for (int n = 1; n <= 8; n++) taken(n, x.scuff(0, 1, 1, 0));
        refused(-5, x.scuff(0, 1, 1, 0));
        due(8, x.count(3));
    }

    @Says("a VISITOR, the HOUSE of another one, a ROOM 1 .. 3, whether")
    static void t1_scuffs_theHouseOfAnotherOne() {
        people(2);
        refused(-1, x.scuff(0, 0, 1, 0));
        refused(-1, x.scuff(1, 1, 1, 1));
        taken(1, x.scuff(1, 0, 1, 0));
    }

    @Says("a ROOM 1 .. 3, whether that one got in so deep")
    static void t1_scuffs_room1To3() {
        people(2);
        refused(-1, x.scuff(0, 1, 0, 1));
        refused(-1, x.scuff(0, 1, 4, 1));
        taken(1, x.scuff(0, 1, 1, 1));
        taken(2, x.scuff(0, 1, 3, 1));
    }

    @Says("whether that one got in so deep")
    static void t1_scuffs_whetherIs0Or1() {
        people(2);
        refused(-1, x.scuff(0, 1, 1, -1));
        refused(-1, x.scuff(0, 1, 1, 2));
        taken(1, x.scuff(0, 1, 1, 0));
        taken(2, x.scuff(0, 1, 1, 1));
    }

    // ------------------------------------------------------------------ terms

    @Says("TERMS: 0 DAY 0 .. 999 (0 at first)")
    static void t1_terms_day0To999() {
        due(0, x.count(13));
        taken(0, x.terms(0, 999));
        taken(999, x.terms(0, 0));
        refused(-1, x.terms(0, -1));
        refused(-1, x.terms(0, 1000));
        due(0, x.count(13));
    }

    @Says("1 MOOD 0 .. 9 (0)")
    static void t1_terms_mood0To9() {
        due(0, x.count(14));
        taken(0, x.terms(1, 9));
        taken(9, x.terms(1, 0));
        refused(-1, x.terms(1, -1));
        refused(-1, x.terms(1, 10));
        due(0, x.count(14));
    }

    // ------------------------------------------------------------------ refusals

    @Says("REFUSED by: -1 a number that can't be")
    static void t1_refused_minus1_numbersThatCantBe() {
        people(2);
        x.debt(0, 1, 5);
        String before = all();
        for (int n : ABSURD) {
            refused(-1, x.person(n, 1, 1));
            refused(-1, x.person(1, n, 1));
            refused(-1, x.person(1, 1, n));
            refused(-1, x.put(0, n, 1));
            refused(-1, x.put(0, 0, n));
            refused(-1, x.put(0, 1, n));
            refused(-1, x.put(0, 2, n));
            refused(-1, x.debt(0, 1, n));
            refused(-1, x.terms(n, 1));
            refused(-1, x.terms(0, n));
            refused(-1, x.terms(1, n));
            refused(-1, x.lend(0, 1, n));
            refused(-1, x.repay(0, 1, n));
        }
        same(before);
        due(13 * ABSURD.length, x.count(7));
    }

    @Says("-1 a number that can't be")
    static void t1_refused_minus1_numbersOfVisitsScuffsMonthsImages() {
        people(2);
        String before = all();
        for (int n : ABSURD) {
            refused(-1, x.visit(0, 1, n, 0));
            refused(-1, x.visit(0, 1, 1, n));
            refused(-1, x.scuff(0, 1, n, 0));
            refused(-1, x.scuff(0, 1, 1, n));
            if (n < 0 || n > 1000000) refused(-1, x.month(n, 1));
            refused(-1, x.month(1, n));
            refused(-1, x.image(n));
            refused(-1, x.back(n));
        }
        same(before);
    }

    @Says("-2 there is no such PERSON, DEBT, LAW, IMAGE")
    static void t1_refused_minus2_noSuchPerson() {
        people(2);
        x.debt(0, 1, 5);
        String before = all();
        for (int n : new int[] {-1, 2, 6, 7, MIN, MAX}) {
            refused(-2, x.put(n, 0, 1));
            refused(-2, x.debt(n, 1, 1));
            refused(-2, x.debt(1, n, 1));
            refused(-2, x.lend(n, 1, 1));
            refused(-2, x.lend(1, n, 1));
            refused(-2, x.repay(n, 1, 1));
            refused(-2, x.repay(0, n, 1));
            refused(-2, x.sell(0, n));
            refused(-2, x.visit(n, 1, 1, 1));
            refused(-2, x.visit(1, n, 1, 1));
            refused(-2, x.scuff(n, 1, 1, 1));
            refused(-2, x.scuff(1, n, 1, 1));
        }
        same(before);
        due(72, x.count(8));
    }

    @Says("no such PERSON, DEBT, LAW, IMAGE")
    static void t1_refused_minus2_noSuchDebtLawImage() {
        people(3);
        x.debt(0, 1, 5);
        law("bars");
        String before = all();
        for (int n : new int[] {1, 15, 16, MIN, MAX, -2}) {
            refused(-2, x.forgive(n));
            refused(-2, x.sell(n, 2));
            refused(-2, x.force(n));
        }
        refused(-2, x.forgive(-1));
        refused(-2, x.sell(-1, 2));
        refused(-2, x.back(0));
        refused(-2, x.back(1));
        same(before);
        due(22, x.count(8));
    }

    @Says("-3 it can't be by what stands")
    static void t1_refused_minus3() {
        refused(-3, x.clear());
        refused(-3, x.undo());
        refused(-3, x.month(0, 1));
        people(2);
        x.debt(0, 1, 5);
        String before = all();
        refused(-3, x.lend(0, 1, 101));
        refused(-3, x.repay(1, 0, 1));
        refused(-3, x.sell(0, 0));
        refused(-3, x.clear());
        same(before);
        due(7, x.count(9));
    }

    @Says("-5 no room")
    static void t1_refused_minus5() {
        people(7);
        debtsUpTo(16, 0, 1);
        for (int i = 0; i < 8; i++) {
            x.visit(0, 1, 1, 0);
            x.scuff(1, 0, 1, 0);
        }
        for (int i = 0; i < 6; i++) due(i, law("bars"));
        String before = all();
        refused(-5, x.person(1, 1, 1));
        refused(-5, x.debt(0, 1, 1));
        refused(-5, x.lend(0, 1, 1));
        refused(-5, x.visit(0, 1, 1, 1));
        refused(-5, x.scuff(0, 1, 1, 1));
        refused(-5, x.law());
        same(before);
        refused(-5, orders("lend 0 to 1 of 1"));
        due(7, x.count(10));
    }

    @Says("-6 a TEXT, a ROW that can't be")
    static void t1_refused_minus6() {
        refused(-6, x.row());
        refused(-6, x.law());
        refused(-6, x.orders());
        refused(-6, law("wait"));
        refused(-6, orders("bars"));
        due(5, x.count(11));
        due(0, x.count(4));
    }

    @Says("The first of these in that order.")
    static void t1_refused_minus1AheadOfMinus2() {
        people(1);
        refused(-1, x.put(5, 0, -1));
        refused(-1, x.put(5, 3, 1));
        refused(-1, x.debt(5, 6, 0));
        refused(-1, x.debt(5, 5, 1));
        refused(-1, x.lend(5, 6, 0));
        refused(-1, x.repay(5, 6, 0));
        refused(-1, x.visit(5, 6, 0, 0));
        refused(-1, x.visit(5, 6, 1, 1000));
        refused(-1, x.visit(5, 5, 1, 0));
        refused(-1, x.scuff(5, 6, 4, 0));
        refused(-1, x.scuff(5, 6, 1, 2));
        refused(-1, x.scuff(5, 5, 1, 0));
        refused(-1, x.back(2));
    }

    @Says("The first of these in that order.")
    static void t1_refused_minus1AheadOfMinus3() {
        refused(-1, x.month(-1, 1));
        refused(-1, x.month(0, 31));
        people(2);
        refused(-1, x.lend(0, 0, 0));
        refused(-1, x.lend(0, 1, 10000));
        refused(-1, x.repay(0, 0, 0));
        refused(-1, x.repay(0, 1, 10000));
    }

    @Says("The first of these in that order.")
    static void t1_refused_minus1AheadOfMinus5() {
        people(7);
        debtsUpTo(16, 0, 1);
        for (int i = 0; i < 8; i++) {
            x.visit(0, 1, 1, 0);
            x.scuff(0, 1, 1, 0);
        }
        refused(-1, x.person(-1, 1, 1));
        refused(-1, x.debt(0, 1, 0));
        refused(-1, x.debt(0, 0, 1));
        refused(-1, x.lend(0, 1, 0));
        refused(-1, x.visit(0, 0, 1, 0));
        refused(-1, x.visit(0, 1, 4, 0));
        refused(-1, x.scuff(0, 0, 1, 0));
        refused(-1, x.scuff(0, 1, 1, 2));
    }

    @Says("The first of these in that order.")
    static void t1_refused_minus2AheadOfMinus3() {
        people(2);
        x.debt(0, 1, 9000);
        refused(-2, x.lend(5, 5, 1));
        refused(-2, x.lend(0, 5, 101));
        refused(-2, x.repay(5, 5, 1));
        refused(-2, x.repay(1, 5, 1));
        refused(-2, x.sell(1, 0));
        refused(-2, x.sell(0, 2));
    }

    @Says("The first of these in that order.")
    static void t1_refused_minus2AheadOfMinus5() {
        people(2);
        debtsUpTo(16, 0, 1);
        for (int i = 0; i < 8; i++) {
            x.visit(0, 1, 1, 0);
            x.scuff(0, 1, 1, 0);
        }
        refused(-2, x.debt(0, 2, 1));
        refused(-2, x.lend(0, 2, 1));
        refused(-2, x.visit(0, 2, 1, 0));
        refused(-2, x.scuff(2, 0, 1, 0));
    }

    @Says("The first of these in that order.")
    static void t1_refused_minus3AheadOfMinus5() {
        people(2);
        debtsUpTo(16, 0, 1);
        refused(-3, x.lend(0, 0, 1));
        refused(-3, x.lend(0, 1, 101));
        x.put(1, 0, 9999);
        refused(-3, x.lend(0, 1, 1));
        x.put(1, 0, 9998);
        refused(-5, x.lend(0, 1, 1));
    }

    @Says("The first of these in that order.")
    static void t1_refused_minus5AheadOfMinus6() {
        for (int i = 0; i < 6; i++) law("bars");
        refused(-5, law("junk"));
        refused(-5, law(""));
    }
}
