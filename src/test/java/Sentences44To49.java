/** Promises 44 to 49: months, images, counts. */
final class Sentences44To49 extends Sentences {

    // ------------------------------------------------------------------ promises 44, 45

    @Says("A MONTH, kept as the latest: how much was lent in it.")
    static void p44_month_howMuchWasLent() {
        people(3);
        // Draws of 0: 12345, 628841, 621889: 0 lends 2 40; 953857, 113460: 1 repays 0, which can't be.
        taken(40, x.month(0, 1));
        dues(new int[] {60, 40, 1}, x.drawn(0, 0), x.drawn(0, 1), x.drawn(0, 2));
        dues(new int[] {100, 0, 0}, x.drawn(1, 0), x.drawn(1, 1), x.drawn(1, 2));
        dues(new int[] {140, -40, 0}, x.drawn(2, 0), x.drawn(2, 1), x.drawn(2, 2));
        x.put(0, 0, 39);
        taken(0, x.month(0, 1));
        dues(new int[] {39, 0, 0}, x.drawn(0, 0), x.drawn(0, 1), x.drawn(0, 2));
    }

    @Says("kept as the latest")
    static void p44_month_refusedOnesAreNotKept() {
        people(3);
        taken(40, x.month(0, 1));
        x.put(0, 0, 0);
        refused(-1, x.month(0, 0));
        refused(-1, x.month(-1, 1));
        due(60, x.drawn(0, 0));
        taken(0, x.month(0, 1));
        due(0, x.drawn(0, 0));
    }

    @Says("-1")
    static void p44_month_minus1() {
        people(1);
        for (int n : new int[] {-1, 1000001, 1000003, MIN, MAX}) refused(-1, x.month(n, 1));
        for (int n : new int[] {0, -1, 31, MIN, MAX}) refused(-1, x.month(1, n));
        taken(0, x.month(1000000, 30));
        taken(0, x.month(0, 1));
    }

    @Says("-3 there are no PEOPLE.")
    static void p44_month_minus3() {
        refused(-3, x.month(0, 1));
        refused(-3, x.month(1000000, 30));
        refused(-1, x.month(0, 31));
        due(NOTHING, x.drawn(0, 0));
        people(1);
        taken(0, x.month(0, 1));
    }

    @Says("Of a PERSON behind the latest MONTH PURSE (what 0), BALANCE (1), how many HOUSES are open to that one (2).")
    static void p45_drawn_whats() {
        people(7, 0);
        for (int p = 0; p < 6; p++) x.debt(p, 6, 10 + p);
        x.debt(6, 0, 5);
        taken(0, x.month(3, 1));
        dues(new int[] {0, 70, 6}, x.drawn(6, 0), x.drawn(6, 1), x.drawn(6, 2));
        dues(new int[] {0, -5, 1}, x.drawn(0, 0), x.drawn(0, 1), x.drawn(0, 2));
        dues(new int[] {0, -15, 0}, x.drawn(5, 0), x.drawn(5, 1), x.drawn(5, 2));
    }

    @Says("how many HOUSES are open to that one (2)")
    static void p45_drawn_housesBehindTheMonth() {
        people(3, 0);
        x.debt(0, 1, 90);
        // The day behind the month is asked, and what debts have grown to.
        rule("grows 20;depth 1 if owes>107 and day=1;depth 0 if owes<108;bars if owner=2;depth 1 if owner=1 and visitor=0 and day=2");
        taken(0, x.month(3, 1));
        dues(new int[] {0, 1, 0}, x.drawn(0, 2), x.drawn(1, 2), x.drawn(2, 2));
        taken(0, x.month(3, 2));
        dues(new int[] {1, 1, 0}, x.drawn(0, 2), x.drawn(1, 2), x.drawn(2, 2));
        x.force(NONE);
        dues(new int[] {1, 1, 0}, x.drawn(0, 2), x.drawn(1, 2), x.drawn(2, 2));
    }

    @Says("NOTHING.")
    static void p45_drawn_nothing() {
        due(NOTHING, x.drawn(0, 0));
        people(2);
        due(NOTHING, x.drawn(0, 0));
        x.month(0, 1);
        for (int n : new int[] {2, 6, 7, -1, MIN, MAX}) for (int w = 0; w < 3; w++) due(NOTHING, x.drawn(n, w));
        for (int n : new int[] {3, 4, -1, MIN, MAX}) due(NOTHING, x.drawn(0, n));
        x.person(1, 1, 1);
        due(NOTHING, x.drawn(2, 0));
        x.month(0, 1);
        due(0, x.drawn(2, 0) == NOTHING ? 1 : 0);
    }

    // ------------------------------------------------------------------ promises 46, 47

    @Says("IMAGE k is kept: 0")
    static void p46_image_isKept() {
        taken(0, x.image(1));
        refused(-2, x.back(0));
        people(2);
        taken(0, x.image(0));
        taken(0, x.back(1));
        due(0, x.count(0));
        taken(0, x.back(0));
        due(2, x.count(0));
    }

    @Says("-1.")
    static void p46_image_minus1() {
        for (int n : new int[] {-1, 2, 3, MIN, MAX}) refused(-1, x.image(n));
        refused(-2, x.back(0));
        refused(-2, x.back(1));
    }

    @Says("BACK to IMAGE k: 0.")
    static void p47_back_to0Or1() {
        people(1);
        x.image(0);
        x.put(0, 0, 1);
        x.image(1);
        x.put(0, 0, 2);
        taken(0, x.back(0));
        due(100, x.of(0, 0));
        taken(0, x.back(1));
        due(1, x.of(0, 0));
    }

    @Says("-1")
    static void p47_back_minus1() {
        x.image(0);
        x.image(1);
        for (int n : new int[] {-1, 2, 3, MIN, MAX}) refused(-1, x.back(n));
    }

    @Says("-2 it was not kept.")
    static void p47_back_minus2() {
        people(2);
        due(5, x.lend(0, 1, 5));
        refused(-2, x.back(0));
        refused(-2, x.back(1));
        due(1, x.count(5));
        x.image(1);
        refused(-2, x.back(0));
        due(5, x.owes(1, 0));
    }

    // ------------------------------------------------------------------ promises 48, 49

    @Says("0 PEOPLE, 1 DEBTS, 2 VISITS, 3 SCUFFS, 4 LAWS, 5 how many can be undone, 6 bytes of the TAPE")
    static void p48_count_0To6() {
        people(3);
        x.debt(0, 1, 5);
        for (int n = 0; n < 4; n++) x.visit(0, 1, 1, 0);
        for (int n = 0; n < 5; n++) x.scuff(0, 1, 1, 0);
        for (int n = 0; n < 6; n++) law("bars");
        for (int n = 0; n < 7; n++) x.await();
        due(5, x.lend(0, 2, 5));
        tape(1, 2, 3, 4, 5, 6, 7, 8, 9);
        dues(new int[] {3, 2, 4, 5, 6, 8, 9}, x.count(0), x.count(1), x.count(2), x.count(3), x.count(4), x.count(5), x.count(6));
    }

    @Says("7 .. 11 how many calls were REFUSED by -1, -2, -3, -5, -6 (IMAGES do not keep that)")
    static void p48_count_7To11() {
        x.image(0);
        for (int n = 0; n < 1; n++) x.terms(9, 9);
        for (int n = 0; n < 2; n++) x.forgive(0);
        for (int n = 0; n < 3; n++) x.undo();
        for (int n = 0; n < 11; n++) x.person(1, 1, 1);
        for (int n = 0; n < 5; n++) x.row();
        dues(new int[] {1, 2, 3, 4, 5}, x.count(7), x.count(8), x.count(9), x.count(10), x.count(11));
        x.image(1);
        x.orders();
        x.back(0);
        dues(new int[] {1, 2, 3, 4, 6}, x.count(7), x.count(8), x.count(9), x.count(10), x.count(11));
        x.back(1);
        dues(new int[] {1, 2, 3, 4, 6}, x.count(7), x.count(8), x.count(9), x.count(10), x.count(11));
    }

    @Says("how many calls were REFUSED")
    static void p48_count_whatIsNoneWasNotRefused() {
        people(2);
        x.of(9, 9);
        x.at(9, 9);
        x.owes(0, 0);
        x.end(-1);
        for (int n = 0; n < 21; n++) x.feed(1, 1, 1, 1, 1);
        x.need(0, 0, 0);
        x.lendings(-1);
        x.plan(9);
        x.thief(0, 0, 0, 0);
        x.shut(0, 0, 0);
        x.ban(9);
        x.party(9);
        x.ring(9);
        x.cleared(9);
        x.balance(9);
        x.secret(-9);
        x.drawn(9, 9);
        x.count(99);
        for (int w = 7; w <= 11; w++) due(0, x.count(w));
    }

    @Says("how many calls were REFUSED")
    static void p48_count_ordersAreRefusedOnce() {
        people(2);
        refused(-3, orders("lend 0 to 9 of 1"));
        refused(-3, orders("lend 0 to 1 of 0"));
        refused(-5, orders("lend 0 to 1 of 1 times 20"));
        dues(new int[] {0, 0, 2, 1, 0}, x.count(7), x.count(8), x.count(9), x.count(10), x.count(11));
        x.month(3, 30);
        dues(new int[] {0, 0, 2, 1, 0}, x.count(7), x.count(8), x.count(9), x.count(10), x.count(11));
    }

    @Says("12 the LAW in FORCE, 13, 14 TERMS 0, 1.")
    static void p48_count_12To14() {
        dues(new int[] {NONE, 0, 0}, x.count(12), x.count(13), x.count(14));
        law("bars");
        due(NONE, x.count(12));
        x.force(0);
        x.terms(0, 999);
        x.terms(1, 9);
        dues(new int[] {0, 999, 9}, x.count(12), x.count(13), x.count(14));
        x.force(NONE);
        due(NONE, x.count(12));
    }

    @Says("NONE for others.")
    static void p48_count_noneForOthers() {
        for (int n : new int[] {-1, -2, 15, 16, MIN, MAX}) due(NONE, x.count(n));
    }

    @Says("What the latest call of person, put, debt, terms, row, law, orders, force, lend, repay, forgive, sell, await, clear, undo, visit, scuff, month, image, back was REFUSED by;")
    static void p49_status_whatTheLatestWasRefusedBy() {
        refused(-3, x.month(0, 1));
        refused(-1, x.person(-1, 1, 1));
        refused(-2, x.put(0, 0, 1));
        refused(-1, x.debt(0, 0, 1));
        refused(-2, x.forgive(0));
        refused(-1, x.terms(2, 0));
        refused(-6, x.row());
        refused(-1, x.lend(0, 1, 0));
        refused(-6, x.law());
        refused(-2, x.force(0));
        refused(-6, x.orders());
        refused(-2, x.repay(0, 1, 1));
        refused(-3, x.clear());
        refused(-2, x.sell(0, 0));
        refused(-3, x.undo());
        refused(-1, x.visit(0, 0, 1, 1));
        refused(-2, x.scuff(0, 1, 1, 1));
        refused(-1, x.image(2));
        refused(-2, x.back(0));
        x.terms(0, 999);
        refused(-3, x.await());
        due(-3, x.status());
    }

    @Says("0 if it was not")
    static void p49_status_0IfItWasNot() {
        people(3);
        Runnable wrong = () -> refused(-1, x.terms(-1, -1));
        wrong.run();
        taken(3, x.person(0, 1, 0));
        wrong.run();
        taken(100, x.put(0, 0, 100));
        wrong.run();
        taken(0, x.debt(0, 1, 9));
        wrong.run();
        taken(0, x.terms(0, 0));
        wrong.run();
        tape(1, 0, 0, 9);
        taken(1, x.row());
        wrong.run();
        taken(0, law("bars if 1=0"));
        wrong.run();
        taken(0, orders("wait if 1=0"));
        wrong.run();
        taken(NONE, x.force(0));
        wrong.run();
        taken(1, x.lend(0, 1, 1));
        wrong.run();
        taken(1, x.repay(0, 1, 1));
        wrong.run();
        taken(8, x.clear());
        wrong.run();
        taken(5, x.undo());
        wrong.run();
        taken(8, x.sell(0, 2));
        wrong.run();
        taken(8, x.forgive(0));
        wrong.run();
        taken(0, x.await());
        wrong.run();
        taken(1, x.visit(0, 1, 1, 0));
        wrong.run();
        taken(1, x.scuff(0, 1, 1, 0));
        wrong.run();
        due(0, x.month(5, 2) < 0 ? 1 : 0);
        due(0, x.status());
        wrong.run();
        taken(0, x.image(0));
        wrong.run();
        taken(0, x.back(0));
    }

    @Says("or ahead of any.")
    static void p49_status_aheadOfAny() {
        due(0, x.status());
        x.of(9, 9);
        x.end(9);
        x.cancel();
        due(0, x.status());
    }

    @Says("What the latest call of person, put,")
    static void p49_status_othersLeaveIt() {
        people(2);
        for (int refusal = 0; refusal < 2; refusal++) {
            if (refusal == 1) refused(-1, x.terms(-1, -1));
            x.feed(1, 1, 1, 1, 1);
            x.end(99);
            x.end(0);
            x.cancel();
            x.sweep();
            x.of(9, 9);
            x.at(9, 9);
            x.owes(9, 9);
            x.fault();
            x.stopped();
            x.blots();
            x.deep(0, 9);
            x.doors(9);
            x.need(0, 0, 0);
            x.lendings(9);
            x.plan(9);
            x.thief(0, 0, 0, 0);
            x.shut(0, 0, 0);
            x.ban(9);
            x.party(9);
            x.ring(9);
            x.cleared(9);
            x.balance(9);
            x.payments();
            x.secret(9);
            x.denied();
            x.drawn(9, 9);
            x.count(7);
            due(-refusal, x.status());
        }
    }
}
