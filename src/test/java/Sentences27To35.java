/** Promises 27 to 35: needs, visits, lendings, thieves, shutting, parties. */
final class Sentences27To35 extends Sentences {

    // ------------------------------------------------------------------ promises 27 to 29

    @Says("The NEED of a VISITOR.")
    static void p27_need_ofAVisitor() {
        people(2);
        dues(new int[] {1, 100, 200}, x.need(1, 0, 1), x.need(1, 0, 2), x.need(1, 0, 3));
        x.debt(0, 1, 150);
        dues(new int[] {0, 0, 50}, x.need(1, 0, 1), x.need(1, 0, 2), x.need(1, 0, 3));
        dues(new int[] {1, 100, 200}, x.need(0, 1, 1), x.need(0, 1, 2), x.need(0, 1, 3));
    }

    @Says("NONE (none;")
    static void p27_need_noneOpensIt() {
        people(2);
        x.put(0, 1, 2);
        due(100, x.need(1, 0, 2));
        due(NONE, x.need(1, 0, 3));
        rule("bars if owes<1000");
        due(NONE, x.need(1, 0, 1));
        x.debt(0, 1, 1);
        due(999, x.need(1, 0, 1));
        rule("depth 0");
        due(NONE, x.need(1, 0, 1));
    }

    @Says("the same one; ROOM 1 .. 3).")
    static void p27_need_noneForTheSameOneAndOtherRooms() {
        people(2);
        rule("depth 3");
        due(0, x.need(1, 0, 1));
        due(0, x.need(1, 0, 3));
        for (int n : new int[] {0, 4, -1, MIN, MAX}) due(NONE, x.need(1, 0, n));
        for (int n : new int[] {0, 1, 2, -1}) due(NONE, x.need(n, n, 1));
        for (int n : new int[] {2, 7, -1, MIN, MAX}) {
            due(NONE, x.need(n, 0, 1));
            due(NONE, x.need(0, n, 1));
        }
    }

    @Says("A VISIT: how many there are.")
    static void p28_visit_howMany() {
        people(3);
        taken(1, x.visit(0, 1, 1, 0));
        taken(2, x.visit(0, 1, 1, 0));
        taken(3, x.visit(2, 0, 3, 999));
        due(3, x.count(2));
    }

    @Says("-1 (the same one, too)")
    static void p28_visit_minus1() {
        people(2);
        for (int n : new int[] {0, 1, 2, -1, MAX}) refused(-1, x.visit(n, n, 1, 0));
        for (int n : new int[] {0, 4, -1, MIN, MAX}) refused(-1, x.visit(0, 1, n, 0));
        for (int n : new int[] {-1, 1000, MIN, MAX}) refused(-1, x.visit(0, 1, 1, n));
        due(0, x.count(2));
    }

    @Says("-2")
    static void p28_visit_minus2() {
        people(2);
        for (int n : new int[] {2, 6, 7, -1, MIN, MAX}) {
            refused(-2, x.visit(0, n, 1, 0));
            refused(-2, x.visit(n, 0, 1, 0));
        }
        due(0, x.count(2));
    }

    @Says("-5")
    static void p28_visit_minus5() {
        people(2);
        for (int n = 1; n <= 8; n++) taken(n, x.visit(0, 1, 1, 0));
        refused(-5, x.visit(0, 1, 1, 0));
        due(8, x.cancel());
        taken(1, x.visit(0, 1, 1, 0));
    }

    @Says("VISITS are none then: how many there were.")
    static void p29_cancel_howManyThereWere() {
        due(0, x.cancel());
        people(2);
        for (int n = 1; n <= 8; n++) x.visit(0, 1, 3, 0);
        due(8, x.cancel());
        due(0, x.count(2));
        due(1, x.plan(NONE));
        due(0, x.lendings(0));
        due(0, x.cancel());
    }

    // ------------------------------------------------------------------ promise 30

    @Says("LENDINGS: how many (what 0), AMOUNTS together (1), in how many ROWS (2), the i-th one of the first ROW, told by the first VISIT of that VISITOR and HOUSE (3 + i).")
    static void p30_lendings_whats() {
        people(3);
        x.visit(0, 1, 1, 0);
        x.visit(2, 0, 2, 0);
        x.visit(0, 1, 3, 0);
        // 0 can lend 200 when it has the 100 of 2.
        dues(new int[] {2, 300, 1, 1, 0, NONE}, x.lendings(0), x.lendings(1), x.lendings(2), x.lendings(3), x.lendings(4), x.lendings(5));
    }

    @Says("in how many ROWS (2), the i-th one of the first ROW")
    static void p30_lendings_noneAreOneRow() {
        dues(new int[] {0, 0, 1, NONE}, x.lendings(0), x.lendings(1), x.lendings(2), x.lendings(3));
        people(2);
        x.debt(1, 0, 1);
        x.visit(0, 1, 1, 0);
        dues(new int[] {0, 0, 1, NONE}, x.lendings(0), x.lendings(1), x.lendings(2), x.lendings(3));
    }

    @Says("the i-th one of the first ROW")
    static void p30_lendings_eightInAnyRow() {
        people(7);
        for (int p = 1; p < 7; p++) x.visit(p, 0, 1, 0);
        x.visit(0, 1, 1, 0);
        x.visit(0, 2, 1, 0);
        due(8, x.lendings(0));
        due(40320, x.lendings(2));
        for (int i = 0; i < 8; i++) due(i, x.lendings(3 + i));
        due(NONE, x.lendings(11));
    }

    @Says("NONE (a NEED is none, for all;")
    static void p30_lendings_noneForAllIfANeedIsNone() {
        people(3);
        x.put(2, 1, 1);
        x.visit(0, 1, 1, 0);
        x.visit(0, 2, 2, 0);
        for (int w = 0; w <= 5; w++) due(NONE, x.lendings(w));
        x.put(2, 1, 2);
        dues(new int[] {2, 101}, x.lendings(0), x.lendings(1));
    }

    @Says("none, for 3 + i).")
    static void p30_lendings_noneForTheIth() {
        people(2);
        x.visit(0, 1, 2, 0);
        due(0, x.lendings(3));
        for (int w : new int[] {4, 5, 10, 11, -1, -2, MIN, MIN + 2, MAX}) due(NONE, x.lendings(w));
        x.put(0, 0, 99);
        dues(new int[] {1, 100, 0, NONE}, x.lendings(0), x.lendings(1), x.lendings(2), x.lendings(3));
    }

    // ------------------------------------------------------------------ promise 31

    @Says("VISITS in a ROW: in how many ROWS (i NONE), the i-th VISIT of the first.")
    static void p31_plan_theFirstRow() {
        people(3);
        x.debt(0, 1, 60);
        x.debt(0, 2, 60);
        x.visit(1, 0, 1, 60);
        x.visit(2, 0, 1, 5);
        x.visit(1, 0, 1, 0);
        // The third ahead of the first; the second anywhere.
        dues(new int[] {3, 1, 2, 0}, x.plan(NONE), x.plan(0), x.plan(1), x.plan(2));
    }

    @Says("in how many ROWS (i NONE)")
    static void p31_plan_eightInAnyRow() {
        due(1, x.plan(NONE));
        people(2);
        x.debt(0, 1, 50);
        for (int i = 0; i < 8; i++) x.visit(1, 0, 1, i % 2);
        due(40320, x.plan(NONE));
        for (int i = 0; i < 8; i++) due(i, x.plan(i));
    }

    @Says("in how many ROWS (i NONE), the i-th VISIT")
    static void p31_plan_whatOneIsRepaidOneCanRepay() {
        people(3, 0);
        x.put(0, 0, 40);
        x.debt(0, 1, 40);
        x.debt(1, 2, 40);
        rule("depth 1 if owes>0 and back=0;depth 0 if owes=0");
        x.visit(2, 1, 1, 40);
        x.visit(1, 0, 1, 40);
        x.visit(2, 1, 1, 0);
        // 1 has nothing to repay 2 with ahead of the second: 1 0 2 is the one row that can't be.
        due(5, x.plan(NONE));
        dues(new int[] {0, 1, 2}, x.plan(0), x.plan(1), x.plan(2));
    }

    @Says("NONE (none).")
    static void p31_plan_none() {
        due(NONE, x.plan(0));
        people(2);
        x.visit(1, 0, 1, 0);
        dues(new int[] {0, NONE, NONE}, x.plan(NONE), x.plan(0), x.plan(1));
        x.debt(0, 1, 5);
        dues(new int[] {1, 0, NONE}, x.plan(NONE), x.plan(0), x.plan(1));
        for (int n : new int[] {-2, 8, MIN, MAX}) due(NONE, x.plan(n));
    }

    // ------------------------------------------------------------------ promise 32

    @Says("A THIEF: for how much (what 0), which DEBTS, as bits (1).")
    static void p32_thief_whats() {
        people(4);
        x.debt(1, 0, 9);
        x.debt(0, 1, 70);
        x.debt(0, 2, 20);
        x.debt(0, 3, 10);
        dues(new int[] {90, 2 + 4}, x.thief(3, 0, 2, 0), x.thief(3, 0, 2, 1));
        dues(new int[] {20, 4}, x.thief(1, 0, 1, 0) + 20, x.thief(1, 0, 1, 1) + 4);
        dues(new int[] {0, 0}, x.thief(3, 0, 1, 0), x.thief(3, 0, 1, 1));
    }

    @Says("which DEBTS, as bits (1)")
    static void p32_thief_allSixteen() {
        people(3);
        for (int d = 0; d < 16; d++) x.debt(0, 1, 1);
        rule("depth 3 if owes=16;depth 0 if owes<16;sells 9*1000+999");
        dues(new int[] {159984, 65535}, x.thief(2, 0, 3, 0), x.thief(2, 0, 3, 1));
    }

    @Says("NONE (by none;")
    static void p32_thief_noneByNone() {
        people(3);
        x.debt(0, 1, 99);
        dues(new int[] {NONE, NONE}, x.thief(2, 0, 2, 0), x.thief(2, 0, 2, 1));
        dues(new int[] {99, 1}, x.thief(2, 0, 1, 0), x.thief(2, 0, 1, 1));
        rule("bars if visitor=2");
        dues(new int[] {NONE, NONE}, x.thief(2, 0, 1, 0), x.thief(2, 0, 1, 1));
        x.put(1, 1, 1);
        rule("depth 3");
        dues(new int[] {0, NONE}, x.thief(2, 1, 1, 0), x.thief(2, 1, 2, 0));
    }

    @Says("the same one; ROOM 1 .. 3).")
    static void p32_thief_noneForTheSameOneAndOtherRooms() {
        people(3);
        rule("depth 3");
        x.debt(0, 1, 5);
        for (int n : new int[] {0, 1, 3, -1}) due(NONE, x.thief(n, n, 1, 0));
        for (int n : new int[] {0, 4, -1, MIN, MAX}) due(NONE, x.thief(2, 0, n, 0));
        for (int n : new int[] {2, 3, -1, MIN, MAX}) due(NONE, x.thief(2, 0, 1, n));
        for (int n : new int[] {3, 7, -1, MIN, MAX}) {
            due(NONE, x.thief(n, 0, 1, 0));
            due(NONE, x.thief(0, n, 1, 0));
        }
        due(0, x.thief(2, 0, 3, 0));
    }

    // ------------------------------------------------------------------ promises 33, 34

    @Says("To SHUT a ROOM.")
    static void p33_shut_aRoom() {
        people(2);
        x.debt(0, 1, 150);
        x.debt(0, 1, 60);
        dues(new int[] {210, 111, 11}, x.shut(0, 1, 1), x.shut(0, 1, 2), x.shut(0, 1, 3));
        dues(new int[] {0, 0, 0}, x.shut(1, 0, 1), x.shut(1, 0, 2), x.shut(1, 0, 3));
        due(210, x.owes(0, 1));
    }

    @Says("NONE (by no AMOUNT;")
    static void p33_shut_noneByNoAmount() {
        people(2);
        x.debt(0, 1, 150);
        rule("depth 1;depth 2 if owes>20");
        dues(new int[] {NONE, 130, 0}, x.shut(0, 1, 1), x.shut(0, 1, 2), x.shut(0, 1, 3));
        due(NONE, x.shut(1, 0, 1));
    }

    @Says("the same one; ROOM 1 .. 3).")
    static void p33_shut_noneForTheSameOneAndOtherRooms() {
        people(2);
        for (int n : new int[] {0, 1, 2, -1}) due(NONE, x.shut(n, n, 1));
        for (int n : new int[] {0, 4, -1, MIN, MAX}) due(NONE, x.shut(0, 1, n));
        for (int n : new int[] {2, 7, -1, MIN, MAX}) {
            due(NONE, x.shut(n, 0, 1));
            due(NONE, x.shut(0, n, 1));
        }
        due(0, x.shut(0, 1, 3));
    }

    @Says("To BAN a PERSON.")
    static void p34_ban_aPerson() {
        due(0, x.person(1, 1, 1));
        due(0, x.ban(0));
        for (int p = 1; p < 7; p++) x.person(1, 1, 1);
        for (int p = 1; p < 7; p++) x.debt(p, 0, p);
        due(21, x.ban(0));
        due(0, x.ban(6));
    }

    @Says("NONE (some door by no AMOUNT).")
    static void p34_ban_noneForSomeDoor() {
        people(3);
        x.debt(1, 0, 9);
        due(9, x.ban(0));
        rule("depth 1 if owner=2");
        due(NONE, x.ban(0));
        due(NONE, x.ban(1));
        due(0, x.ban(2));
        for (int n : new int[] {3, 6, 7, -1, MIN, MAX}) due(NONE, x.ban(n));
    }

    // ------------------------------------------------------------------ promise 35

    @Says("A PARTY: the HOUSE (what 0), NEEDS together (1).")
    static void p35_party_whats() {
        people(4);
        dues(new int[] {0, 3}, x.party(0), x.party(1));
        x.debt(2, 0, 5);
        x.debt(3, 1, 5);
        dues(new int[] {2, 2}, x.party(0), x.party(1));
        x.debt(3, 0, 5);
        dues(new int[] {3, 1}, x.party(0), x.party(1));
        rule("bars if owner=3 and visitor=2");
        dues(new int[] {2, 2}, x.party(0), x.party(1));
        rule("bars if owner=0 and visitor=1;depth 1 if owes>49;depth 0 if owes<50");
        dues(new int[] {3, 140}, x.party(0), x.party(1));
        rule("bars if owner<2 and visitor=3;depth 0;depth 1 if owner=0 or owner=3 or owes>9");
        dues(new int[] {3, 0}, x.party(0), x.party(1));
    }

    @Says("the HOUSE (what 0), NEEDS together (1)")
    static void p35_party_ofOneAlone() {
        people(1);
        dues(new int[] {0, 0}, x.party(0), x.party(1));
        rule("bars");
        dues(new int[] {0, 0}, x.party(0), x.party(1));
    }

    @Says("NONE (none).")
    static void p35_party_none() {
        dues(new int[] {NONE, NONE}, x.party(0), x.party(1));
        people(2);
        for (int n : new int[] {-1, 2, 3, MIN, MAX}) due(NONE, x.party(n));
        rule("bars");
        dues(new int[] {NONE, NONE}, x.party(0), x.party(1));
        rule("bars if owes<1000");
        dues(new int[] {NONE, NONE}, x.party(0), x.party(1));
        x.debt(1, 0, 1);
        dues(new int[] {1, 999}, x.party(0), x.party(1));
    }
}
