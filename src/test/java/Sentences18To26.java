/** Promises 18 to 26: doors, and deeds that can be undone. */
final class Sentences18To26 extends Sentences {

    // ------------------------------------------------------------------ promises 18, 19

    @Says("How DEEP a visitor gets into the HOUSE of an owner.")
    static void p18_deep_howDeep() {
        people(3);
        x.put(2, 1, 2);
        due(0, x.deep(0, 1));
        x.debt(0, 1, 99);
        due(1, x.deep(0, 1));
        x.debt(0, 1, 1);
        due(2, x.deep(0, 1));
        x.debt(0, 1, 100);
        due(3, x.deep(0, 1));
        due(0, x.deep(1, 0));
        x.debt(2, 0, 999);
        due(2, x.deep(2, 0));
    }

    @Says("NONE (the same one).")
    static void p18_deep_none() {
        people(2);
        rule("depth 1");
        for (int n : new int[] {0, 1, 2, -1, 7, MIN, MAX}) due(NONE, x.deep(n, n));
        for (int n : new int[] {2, 6, 7, -1, MIN, MAX}) {
            due(NONE, x.deep(0, n));
            due(NONE, x.deep(n, 0));
        }
        due(1, x.deep(1, 0));
    }

    @Says("HOUSES into which a PERSON gets at all, as bits.")
    static void p19_doors_asBits() {
        people(7);
        due(0, x.doors(3));
        x.debt(0, 3, 1);
        x.debt(6, 3, 300);
        x.debt(3, 5, 9);
        due(1 + 64, x.doors(3));
        due(8, x.doors(5));
        rule("depth 1");
        for (int p = 0; p < 7; p++) due(127 - (1 << p), x.doors(p));
        rule("bars");
        for (int p = 0; p < 7; p++) due(0, x.doors(p));
    }

    @Says("NONE.")
    static void p19_doors_none() {
        people(2);
        for (int n : new int[] {2, 6, 7, -1, MIN, MAX}) due(NONE, x.doors(n));
    }

    // ------------------------------------------------------------------ promise 20

    @Says("To LEND: the AMOUNT.")
    static void p20_lend_theAmount() {
        people(2);
        taken(1, x.lend(0, 1, 1));
        taken(99, x.lend(0, 1, 99));
        dues(new int[] {1, 0, 1, 0, 1, 0, 99, 0}, debts());
        dues(new int[] {0, 200}, purses());
        x.put(0, 0, 9999);
        x.put(1, 0, 0);
        taken(9999, x.lend(0, 1, 9999));
        dues(new int[] {0, 9999}, purses());
    }

    @Says("-1 (1 .. 9,999)")
    static void p20_lend_minus1() {
        people(2, 0);
        x.put(0, 0, 9999);
        for (int n : new int[] {0, -1, 10000, MIN, MAX}) refused(-1, x.lend(0, 1, n));
        due(5, x.count(7));
        due(0, x.count(5));
    }

    @Says("-2")
    static void p20_lend_minus2() {
        people(2);
        for (int n : new int[] {2, 6, 7, -1, MIN, MAX}) {
            refused(-2, x.lend(0, n, 1));
            refused(-2, x.lend(n, 0, 1));
            refused(-2, x.lend(n, n, 1));
        }
        due(0, x.count(1));
    }

    @Says("-3 (the same one, PURSES)")
    static void p20_lend_minus3() {
        people(2);
        refused(-3, x.lend(0, 0, 1));
        refused(-3, x.lend(1, 1, 100));
        refused(-3, x.lend(0, 1, 101));
        x.put(1, 0, 9900);
        refused(-3, x.lend(0, 1, 100));
        taken(99, x.lend(0, 1, 99));
        dues(new int[] {1, 9999}, purses());
    }

    @Says("-5")
    static void p20_lend_minus5() {
        people(2);
        debtsUpTo(15, 0, 1);
        taken(1, x.lend(0, 1, 1));
        refused(-5, x.lend(0, 1, 1));
        dues(new int[] {99, 101}, purses());
        due(1, x.count(5));
    }

    // ------------------------------------------------------------------ promise 21

    @Says("To REPAY: what was repaid.")
    static void p21_repay_whatWasRepaid() {
        people(3);
        x.debt(0, 1, 30);
        x.debt(0, 1, 50);
        taken(1, x.repay(0, 1, 1));
        taken(79, x.repay(0, 1, 9999));
        dues(new int[] {20, 180, 100}, purses());
        due(0, x.count(1));
        x.debt(1, 2, 9999);
        x.put(1, 0, 9999);
        x.put(2, 0, 0);
        taken(9999, x.repay(1, 2, 9999));
    }

    @Says("-1 (1 .. 9,999)")
    static void p21_repay_minus1() {
        people(2);
        x.debt(0, 1, 30);
        for (int n : new int[] {0, -1, 10000, MIN, MAX}) refused(-1, x.repay(0, 1, n));
        due(30, x.owes(0, 1));
    }

    @Says("-2")
    static void p21_repay_minus2() {
        people(2);
        x.debt(0, 1, 30);
        for (int n : new int[] {2, 6, 7, -1, MIN, MAX}) {
            refused(-2, x.repay(0, n, 1));
            refused(-2, x.repay(n, 1, 1));
            refused(-2, x.repay(n, n, 1));
        }
        due(30, x.owes(0, 1));
    }

    @Says("-3 nothing can be (the same one, too).")
    static void p21_repay_minus3() {
        people(2);
        refused(-3, x.repay(0, 1, 1));
        refused(-3, x.repay(0, 0, 1));
        x.debt(0, 1, 30);
        refused(-3, x.repay(1, 0, 1));
        x.put(0, 0, 0);
        refused(-3, x.repay(0, 1, 1));
        x.put(0, 0, 5);
        x.put(1, 0, 9999);
        refused(-3, x.repay(0, 1, 1));
        refused(-3, x.repay(1, 1, 1));
        due(0, x.count(5));
        x.put(1, 0, 9998);
        taken(1, x.repay(0, 1, 30));
    }

    // ------------------------------------------------------------------ promises 22, 23

    @Says("A DEBT is forgiven: its AMOUNT.")
    static void p22_forgive_itsAmount() {
        people(2, 7);
        x.debt(0, 1, 9999);
        x.debt(0, 1, 1);
        x.debt(1, 0, 5);
        taken(1, x.forgive(1));
        dues(new int[] {0, 1, 9999, 0, 1, 0, 5, 0}, debts());
        taken(9999, x.forgive(0));
        taken(5, x.forgive(0));
        due(0, x.count(1));
        dues(new int[] {7, 7}, purses());
    }

    @Says("-2.")
    static void p22_forgive_minus2() {
        refused(-2, x.forgive(0));
        people(2);
        x.debt(0, 1, 5);
        for (int n : new int[] {1, 15, 16, -1, MIN, MAX}) refused(-2, x.forgive(n));
        taken(5, x.forgive(0));
        refused(-2, x.forgive(0));
    }

    @Says("A DEBT is SOLD to a PERSON: for what.")
    static void p23_sell_forWhat() {
        people(4);
        rule("sells amount/2+age");
        x.debt(0, 1, 80);
        x.debt(2, 0, 7);
        x.await();
        taken(41, x.sell(0, 3));
        dues(new int[] {0, 3, 80, 0, 2, 0, 7, 0}, debts());
        dues(new int[] {100, 141, 100, 59}, purses());
        taken(4, x.sell(1, 1));
        dues(new int[] {0, 3, 80, 0, 2, 1, 7, 0}, debts());
    }

    @Says("-2")
    static void p23_sell_minus2() {
        people(3);
        x.debt(0, 1, 5);
        for (int n : new int[] {1, 15, 16, -1, MIN, MAX}) refused(-2, x.sell(n, 2));
        for (int n : new int[] {3, 6, 7, -1, MIN, MAX}) refused(-2, x.sell(0, n));
        due(1, x.at(0, 1));
    }

    @Says("-3 (DEBTOR, CREDITOR, PURSES).")
    static void p23_sell_minus3() {
        people(3);
        x.debt(0, 1, 1);
        refused(-3, x.sell(0, 0));
        refused(-3, x.sell(0, 1));
        x.forgive(0);
        x.debt(0, 1, 101);
        refused(-3, x.sell(0, 2));
        x.put(2, 0, 101);
        x.put(1, 0, 9899);
        refused(-3, x.sell(0, 2));
        x.put(1, 0, 9898);
        taken(101, x.sell(0, 2));
        dues(new int[] {100, 9999, 0}, purses());
        due(1, x.count(5));
    }

    // ------------------------------------------------------------------ promises 24, 25

    @Says("To WAIT: by how much all DEBTS grew.")
    static void p24_await_byHowMuch() {
        taken(0, x.await());
        people(3);
        x.debt(0, 1, 100);
        x.debt(1, 2, 250);
        taken(0, x.await());
        rule("grows 10;grows 1 if owner=1");
        taken(10 + 2, x.await());
        taken(11 + 2, x.await());
        dues(new int[] {0, 1, 121, 1, 1, 2, 254, 1}, debts());
        due(4, x.count(13));
    }

    @Says("-3 DAY 999.")
    static void p24_await_minus3_day999() {
        people(2);
        x.debt(0, 1, 100);
        rule("grows 10");
        x.terms(0, 998);
        taken(10, x.await());
        refused(-3, x.await());
        due(110, x.at(0, 2));
        due(999, x.count(13));
        due(1, x.count(5));
    }

    @Says("A RING is CLEARED: by how much.")
    static void p25_clear_byHowMuch() {
        people(3);
        x.debt(0, 1, 10);
        x.debt(1, 0, 4);
        x.debt(1, 2, 9);
        x.debt(2, 0, 8);
        taken(4, x.clear());
        dues(new int[] {0, 1, 6, 0, 1, 2, 9, 0, 2, 0, 8, 0}, debts());
        taken(6, x.clear());
        dues(new int[] {1, 2, 3, 0, 2, 0, 2, 0}, debts());
    }

    @Says("-3 there is none.")
    static void p25_clear_minus3_none() {
        refused(-3, x.clear());
        people(3);
        refused(-3, x.clear());
        x.debt(0, 1, 10);
        x.debt(0, 2, 10);
        x.debt(1, 2, 10);
        refused(-3, x.clear());
        due(3, x.count(1));
        due(0, x.count(5));
    }

    // ------------------------------------------------------------------ promise 26

    @Says("The latest lend(), repay(), forgive(), sell(), await(), clear() (by ORDERS, too; 16 are kept) is undone: 0 .. 5, in that order.")
    static void p26_undo_eachTellsItsNumber() {
        people(3);
        x.debt(0, 1, 40);
        x.debt(1, 0, 30);
        rule("grows 10;sells 5");
        int[][] debts = new int[7][];
        int[][] purses = new int[7][];
        for (int deed = 0; deed < 6; deed++) {
            debts[deed] = debts();
            purses[deed] = purses();
            switch (deed) {
                case 0: taken(20, x.lend(0, 1, 20)); break;
                case 1: taken(15, x.repay(0, 1, 15)); break;
                case 2: taken(20, x.forgive(2)); break;
                case 3: taken(5, x.sell(0, 2)); break;
                case 4: taken(2 + 3, x.await()); break;
                default: refused(-3, x.clear());
            }
        }
        due(5, x.count(5));
        for (int deed = 4; deed >= 0; deed--) {
            taken(deed, x.undo());
            due(deed, x.count(5));
            due(0, x.count(13));
            dues(debts[deed], debts());
            dues(purses[deed], purses());
        }
        taken(30, x.clear());
        dues(new int[] {0, 1, 10, 0}, debts());
        taken(5, x.undo());
        dues(debts[0], debts());
    }

    @Says("(by ORDERS, too; 16 are kept)")
    static void p26_undo_byOrdersToo() {
        people(2);
        due(4, orders("lend 0 to 1 of 7;wait;repay 1 to 0 of 3;wait if done=3"));
        due(4, x.count(5));
        taken(4, x.undo());
        due(1, x.count(13));
        taken(1, x.undo());
        due(7, x.owes(1, 0));
        taken(4, x.undo());
        due(0, x.count(13));
        taken(0, x.undo());
        due(0, x.count(1));
        refused(-3, x.undo());
    }

    @Says("16 are kept)")
    static void p26_undo_sixteenAreKept() {
        for (int day = 1; day <= 15; day++) taken(0, x.await());
        due(15, x.count(5));
        taken(0, x.await());
        due(16, x.count(5));
        taken(0, x.await());
        due(16, x.count(5));
        for (int day = 16; day >= 1; day--) {
            taken(4, x.undo());
            due(day, x.count(13));
        }
        refused(-3, x.undo());
        due(1, x.count(13));
    }

    @Says("16 are kept)")
    static void p26_undo_sixteenOfOrdersAreKept() {
        people(2);
        due(5, x.lend(0, 1, 5));
        due(40, orders("wait times 20;wait times 20"));
        due(16, x.count(5));
        for (int i = 0; i < 16; i++) due(4, x.undo());
        due(24, x.count(13));
        refused(-3, x.undo());
        due(5, x.owes(1, 0));
    }

    @Says("16 are kept)")
    static void p26_undo_refusedOrdersTakeNoneOfThem() {
        people(2);
        for (int day = 1; day <= 20; day++) x.await();
        refused(-3, orders("wait times 20;lend 0 to 1 of 5;lend 0 to 0 of 1"));
        due(16, x.count(5));
        for (int day = 19; day >= 4; day--) {
            taken(4, x.undo());
            due(day, x.count(13));
        }
        refused(-3, x.undo());
    }

    @Says("is undone: 0 .. 5, in that order.")
    static void p26_undo_ofAllSixteenDebts() {
        people(3);
        for (int d = 0; d < 16; d++) {
            x.terms(0, d);
            x.debt(0, 1, 10 + d);
        }
        int[] before = debts();
        due(10, x.forgive(0));
        due(0, x.await());
        due(7, x.lend(1, 2, 7));
        dues(new int[] {2, 1, 7, 16}, x.at(15, 0), x.at(15, 1), x.at(15, 2), x.at(15, 3));
        for (int deed : new int[] {0, 4, 2}) taken(deed, x.undo());
        dues(before, debts());
        refused(-3, orders("repay 0 to 1 of 10;wait;lend 1 to 2 of 7;lend 0 to 0 of 1"));
        dues(before, debts());
    }

    @Says("16 are kept)")
    static void p26_undo_refusedDeedsTakeNoneOfThem() {
        people(2);
        for (int day = 1; day <= 17; day++) x.await();
        refused(-3, x.lend(0, 0, 1));
        refused(-1, x.lend(0, 1, 0));
        refused(-3, x.repay(0, 1, 1));
        refused(-2, x.forgive(0));
        refused(-2, x.sell(0, 1));
        refused(-3, x.clear());
        due(16, x.count(5));
        for (int day = 16; day >= 1; day--) {
            taken(4, x.undo());
            due(day, x.count(13));
        }
        refused(-3, x.undo());
    }

    @Says("-3 there is none")
    static void p26_undo_minus3_none() {
        refused(-3, x.undo());
        people(2);
        refused(-3, x.undo());
        refused(-3, x.lend(0, 0, 1));
        refused(-3, x.undo());
        due(5, x.lend(0, 1, 5));
        taken(0, x.undo());
        refused(-3, x.undo());
        due(0, x.count(5));
    }

    /** What can be undone behind a call, of two. */
    private static void twoDeeds() {
        anew();
        people(2);
        due(10, x.lend(0, 1, 10));
        due(0, x.await());
        due(2, x.count(5));
    }

    private static void forgotten() {
        due(0, x.count(5));
        refused(-3, x.undo());
        due(10, x.owes(1, 0));
        due(5, x.lend(0, 1, 5));
        taken(0, x.undo());
        refused(-3, x.undo());
        due(10, x.owes(1, 0));
    }

    private static void stillKept() {
        due(2, x.count(5));
        taken(4, x.undo());
        taken(0, x.undo());
        due(0, x.owes(1, 0));
    }

    @Says("(nothing that was ahead of a person(), put(), debt(), row(), terms() that was not REFUSED can be undone)")
    static void p26_undo_nothingAheadOfPersonPutDebtRowTerms() {
        twoDeeds();
        taken(2, x.person(1, 1, 1));
        forgotten();
        twoDeeds();
        taken(0, x.put(0, 2, 0));
        forgotten();
        twoDeeds();
        taken(1, x.debt(0, 1, 5));
        forgotten();
        twoDeeds();
        tape(0, 1, 0, 1);
        taken(1, x.row());
        forgotten();
        twoDeeds();
        tape(9);
        taken(0, x.row());
        forgotten();
        twoDeeds();
        taken(1, x.terms(0, 1));
        forgotten();
        twoDeeds();
        taken(0, x.terms(1, 0));
        forgotten();
    }

    @Says("that was not REFUSED can be undone)")
    static void p26_undo_keptBehindRefusedOnes() {
        twoDeeds();
        refused(-1, x.person(1, 4, 1));
        stillKept();
        twoDeeds();
        refused(-1, x.put(0, 2, 100));
        refused(-2, x.put(2, 2, 1));
        stillKept();
        twoDeeds();
        refused(-1, x.debt(0, 0, 5));
        refused(-2, x.debt(0, 5, 5));
        stillKept();
        twoDeeds();
        refused(-6, x.row());
        stillKept();
        twoDeeds();
        refused(-1, x.terms(0, 1000));
        refused(-1, x.terms(2, 0));
        stillKept();
    }

    @Says("(nothing that was ahead of a person(), put(), debt(), row(), terms()")
    static void p26_undo_keptBehindOtherCalls() {
        twoDeeds();
        taken(1, x.visit(0, 1, 1, 5));
        taken(1, x.scuff(0, 1, 1, 1));
        due(1, x.cancel());
        due(1, x.sweep());
        taken(0, law("bars"));
        taken(NONE, x.force(0));
        taken(0, x.image(0));
        due(0, x.month(1, 5) < 0 ? 1 : 0);
        refused(-2, x.back(1));
        refused(-3, x.clear());
        taken(0, orders("wait if 1=0"));
        refused(-6, orders("junk"));
        stillKept();
        due(0, x.count(12));
    }

    @Says("nothing that was ahead of a person(), put(), debt(), row(), terms()")
    static void p26_undo_sixteenBehindAForgottenRow() {
        for (int i = 0; i < 11; i++) x.await();
        x.terms(1, 1);
        for (int i = 0; i < 18; i++) x.await();
        for (int day = 28; day >= 13; day--) {
            due(4, x.undo());
            due(day, x.count(13));
        }
        refused(-3, x.undo());
    }

    @Says("is undone")
    static void p26_undo_whatALawAndVisitsAreStays() {
        people(2);
        law("depth 3");
        due(5, x.lend(0, 1, 5));
        x.force(0);
        x.visit(0, 1, 1, 1);
        taken(0, x.undo());
        due(0, x.count(12));
        due(1, x.count(2));
        due(3, x.deep(0, 1));
    }
}
