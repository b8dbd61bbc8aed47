/** Terms, part III: deeds, needs, visits, thieves, rings, scuffs. */
final class SentencesOfTerms3 extends Sentences {

    // ------------------------------------------------------------------ to lend, repay, sell, wait

    @Says("To LEND: the giver's PURSE has the AMOUNT")
    static void t3_lend_theGiversPurseHasIt() {
        people(2);
        refused(-3, x.lend(0, 1, 101));
        taken(100, x.lend(0, 1, 100));
        dues(new int[] {0, 200}, purses());
        refused(-3, x.lend(0, 1, 1));
    }

    @Says("the taker's has 9,999 at most then")
    static void t3_lend_theTakersPurseHas9999AtMost() {
        people(2);
        x.put(1, 0, 9990);
        refused(-3, x.lend(0, 1, 10));
        taken(9, x.lend(0, 1, 9));
        due(9999, x.of(1, 0));
        refused(-3, x.lend(0, 1, 1));
        due(91, x.of(0, 0));
    }

    @Says("a DEBT of the taker to the giver of that DAY.")
    static void t3_lend_aDebtOfThatDay() {
        people(2);
        x.terms(0, 999);
        due(5, x.lend(1, 0, 5));
        x.terms(0, 2);
        due(5, x.lend(1, 0, 5));
        dues(new int[] {0, 1, 5, 999, 0, 1, 5, 2}, debts());
    }

    @Says("To REPAY up to an AMOUNT: what the DEBTOR OWES")
    static void t3_repay_whatOneOwesAtMost() {
        people(2);
        x.debt(0, 1, 30);
        x.debt(0, 1, 20);
        x.debt(1, 0, 7);
        due(49, x.repay(0, 1, 49));
        due(1, x.repay(0, 1, 2));
        due(0, x.owes(0, 1));
        due(7, x.owes(1, 0));
        refused(-3, x.repay(0, 1, 1));
        dues(new int[] {50, 150}, purses());
    }

    @Says("has in the PURSE, and what the CREDITOR's PURSE can take, at most")
    static void t3_repay_whatOneHasAtMost() {
        people(2);
        x.debt(0, 1, 300);
        x.put(0, 0, 1);
        due(1, x.repay(0, 1, 300));
        dues(new int[] {0, 101}, purses());
        refused(-3, x.repay(0, 1, 300));
        due(299, x.owes(0, 1));
    }

    @Says("what the CREDITOR's PURSE can take, at most")
    static void t3_repay_whatTheCreditorCanTakeAtMost() {
        people(2);
        x.debt(0, 1, 90);
        x.put(1, 0, 9998);
        due(1, x.repay(0, 1, 90));
        dues(new int[] {99, 9999}, purses());
        refused(-3, x.repay(0, 1, 90));
        due(89, x.owes(0, 1));
    }

    @Says("DEBTS in their order, each as far as it goes.")
    static void t3_repay_debtsInTheirOrder() {
        people(3);
        x.debt(0, 1, 10);
        x.debt(0, 2, 10);
        x.debt(0, 1, 20);
        x.debt(0, 1, 30);
        due(9, x.repay(0, 1, 9));
        due(1, x.at(0, 2));
        due(2, x.repay(0, 1, 2));
        dues(new int[] {0, 2, 10, 0, 0, 1, 19, 0, 0, 1, 30, 0}, debts());
        due(20, x.repay(0, 1, 20));
        dues(new int[] {0, 2, 10, 0, 0, 1, 29, 0}, debts());
    }

    @Says("To SELL a DEBT: the buyer (neither DEBTOR nor CREDITOR)")
    static void t3_sell_neitherDebtorNorCreditor() {
        people(3);
        x.debt(0, 1, 5);
        refused(-3, x.sell(0, 0));
        refused(-3, x.sell(0, 1));
        taken(5, x.sell(0, 2));
        refused(-3, x.sell(0, 2));
        taken(5, x.sell(0, 1));
    }

    @Says("pays the CREDITOR what it is SOLD for (PURSES as for lending), and is the CREDITOR then.")
    static void t3_sell_pursesAsForLending() {
        people(3);
        rule("sells amount/2");
        x.debt(0, 1, 201);
        x.put(2, 0, 99);
        refused(-3, x.sell(0, 2));
        x.put(2, 0, 100);
        x.put(1, 0, 9900);
        refused(-3, x.sell(0, 2));
        x.put(1, 0, 9899);
        taken(100, x.sell(0, 2));
        dues(new int[] {100, 9999, 0}, purses());
        dues(new int[] {0, 2, 201, 0}, debts());
    }

    @Says("pays the CREDITOR what it is SOLD for")
    static void t3_sell_forNothing() {
        people(3, 0);
        x.put(1, 0, 9999);
        rule("sells 0");
        x.debt(0, 1, 9999);
        taken(0, x.sell(0, 2));
        dues(new int[] {0, 2, 9999, 0}, debts());
    }

    @Says("To WAIT: it is the next DAY (behind 999 it can't be)")
    static void t3_wait_behind999ItCantBe() {
        x.terms(0, 998);
        taken(0, x.await());
        due(999, x.count(13));
        refused(-3, x.await());
        due(999, x.count(13));
        refused(-3, orders("wait"));
    }

    @Says("each DEBT, asked in the new DAY as all are then, one behind the other")
    static void t3_wait_askedInTheNewDay() {
        people(2);
        x.debt(0, 1, 100);
        rule("grows day*10+age");
        due(11, x.await());
        due(24, x.await());
        due(135, x.at(0, 2));
        due(0, x.at(0, 3));
    }

    @Says("as all are then, one behind the other")
    static void t3_wait_oneBehindTheOther() {
        people(2);
        rule("grows 10 if owes<200;grows 50 if owes>199;grows 1 if owner=1 and back=252");
        x.debt(0, 1, 100);
        x.debt(0, 1, 95);
        x.debt(1, 0, 200);
        // 195: 10; then 205: 47; what is owed back then is 252, so that the third grows by 1.
        due(10 + 47 + 2, x.await());
        due(110, x.at(0, 2));
        due(142, x.at(1, 2));
        due(202, x.at(2, 2));
    }

    @Says("has AMOUNT times GROWS by 100, cut, more, 9,999 at most.")
    static void t3_wait_cut() {
        people(2);
        rule("grows 1");
        x.debt(0, 1, 99);
        x.debt(0, 1, 100);
        x.debt(0, 1, 199);
        x.debt(0, 1, 200);
        due(0 + 1 + 1 + 2, x.await());
        dues(new int[] {0, 1, 99, 0, 0, 1, 101, 0, 0, 1, 200, 0, 0, 1, 202, 0}, debts());
    }

    @Says("more, 9,999 at most.")
    static void t3_wait_9999AtMost() {
        people(2);
        rule("grows 1");
        x.debt(0, 1, 9900);
        x.debt(0, 1, 9901);
        x.debt(0, 1, 9998);
        x.debt(0, 1, 9999);
        due(99 + 98 + 1 + 0, x.await());
        for (int d = 0; d < 4; d++) due(9999, x.at(d, 2));
        due(0, x.await());
        rule("grows 99");
        due(0, x.await());
        due(9999, x.at(3, 2));
    }

    // ------------------------------------------------------------------ needs, lendings, visits

    @Says("The NEED of a VISITOR for a HOUSE and a ROOM: the least AMOUNT 0 .. 999 that")
    static void t3_need_0To999() {
        people(2);
        rule("depth 1 if owes>999;depth 0 if owes<1000");
        due(NONE, x.need(1, 0, 1));
        x.debt(0, 1, 1);
        due(999, x.need(1, 0, 1));
        x.debt(0, 1, 998);
        due(1, x.need(1, 0, 1));
        x.debt(0, 1, 1);
        due(0, x.need(1, 0, 1));
        due(NONE, x.need(1, 0, 2));
    }

    @Says("the least AMOUNT 0 .. 999 that")
    static void t3_need_theLeast() {
        people(2);
        rule("depth owes%4");
        due(1, x.need(1, 0, 1));
        due(2, x.need(1, 0, 2));
        due(3, x.need(1, 0, 3));
        x.debt(0, 1, 6);
        due(0, x.need(1, 0, 1));
        due(0, x.need(1, 0, 2));
        due(1, x.need(1, 0, 3));
    }

    @Says("if the owner OWED the VISITOR as much more (nothing else being otherwise), opens the ROOM.")
    static void t3_need_nothingElseBeingOtherwise() {
        people(2);
        x.put(1, 0, 0);
        x.terms(0, 7);
        x.debt(1, 0, 40);
        debtsUpTo(16, 1, 0);
        rule("depth 2 if owes=5 and back=55 and day=7 and amount=0-1 and age=0-1");
        due(5, x.need(1, 0, 2));
        due(1, x.need(1, 0, 1));
        due(0, x.owes(0, 1));
    }

    @Says("LENDINGS for all told VISITS: of each VISITOR and HOUSE the NEED of the deepest ROOM told")
    static void t3_lendings_ofTheDeepestRoomTold() {
        people(3, 9000);
        x.visit(0, 1, 2, 0);
        due(100, x.lendings(1));
        x.visit(0, 1, 3, 0);
        x.visit(0, 1, 1, 0);
        due(200, x.lendings(1));
        due(1, x.lendings(0));
        x.visit(1, 0, 1, 0);
        x.visit(0, 2, 2, 0);
        x.visit(2, 1, 3, 0);
        due(200 + 1 + 100 + 200, x.lendings(1));
        due(4, x.lendings(0));
    }

    @Says("if above 0 (in order of VISITS, the first of each)")
    static void t3_lendings_above0InOrderOfVisits() {
        people(4, 9000);
        x.debt(1, 0, 5);
        x.visit(0, 1, 1, 0);
        x.visit(0, 2, 1, 0);
        x.visit(3, 0, 1, 0);
        x.visit(0, 2, 2, 0);
        x.visit(2, 1, 1, 0);
        due(3, x.lendings(0));
        due(100 + 1 + 1, x.lendings(1));
        due(6, x.lendings(2));
        due(1, x.lendings(3));
        due(2, x.lendings(4));
        due(4, x.lendings(5));
        due(NONE, x.lendings(6));
        x.visit(0, 1, 2, 0);
        due(4, x.lendings(0));
        due(0, x.lendings(3));
    }

    @Says("ROWS in which they can be, one behind the other, as far as PURSES go")
    static void t3_lendings_asFarAsPursesGo() {
        people(3, 0);
        x.put(0, 0, 100);
        x.visit(1, 2, 2, 0);
        x.visit(0, 1, 2, 0);
        // 1 has the 100 only when it has them of 0.
        due(1, x.lendings(2));
        due(1, x.lendings(3));
        due(0, x.lendings(4));
        x.put(0, 0, 99);
        due(0, x.lendings(2));
        due(NONE, x.lendings(3));
        due(2, x.lendings(0));
        due(200, x.lendings(1));
    }

    @Says("ROWS in which they can be, one behind the other, as far as PURSES go")
    static void t3_lendings_theFirstToldIsTheFirstThatCanBe() {
        people(3, 0);
        x.put(0, 0, 100);
        x.visit(0, 1, 2, 0);
        x.visit(1, 2, 2, 0);
        dues(new int[] {1, 0, 1}, x.lendings(2), x.lendings(3), x.lendings(4));
    }

    @Says("ROWS in which they can be")
    static void t3_lendings_notARowThatLeadsNowhere() {
        people(3, 0);
        x.put(0, 0, 100);
        x.put(2, 0, 10);
        x.debt(2, 0, 50);
        x.debt(0, 2, 40);
        x.visit(0, 1, 2, 0);
        x.visit(0, 2, 2, 0);
        x.visit(2, 0, 2, 0);
        // 100 of 0 to 1 can be first, but then 50 of 0 to 2 and 60 of 2 to 0 can't be any more.
        dues(new int[] {3, 210, 1, 1, 2, 0}, x.lendings(0), x.lendings(1), x.lendings(2), x.lendings(3), x.lendings(4), x.lendings(5));
    }

    @Says("as far as PURSES go")
    static void t3_lendings_takersPursesToo() {
        people(3, 100);
        x.put(1, 0, 9899);
        x.visit(0, 1, 2, 0);
        due(1, x.lendings(2));
        x.put(1, 0, 9900);
        due(0, x.lendings(2));
        x.visit(1, 2, 1, 0);
        due(1, x.lendings(2));
        due(1, x.lendings(3));
        due(0, x.lendings(4));
    }

    @Says("(how many DEBTS there are does not matter).")
    static void t3_lendings_howManyDebtsDoesNotMatter() {
        people(3);
        debtsUpTo(16, 2, 1);
        x.visit(0, 1, 1, 0);
        x.visit(0, 2, 1, 0);
        due(2, x.lendings(0));
        due(2, x.lendings(2));
    }

    @Says("VISITS in a ROW: the VISITOR gets as DEEP as the ROOM")
    static void t3_visits_asDeepAsTheRoom() {
        people(2);
        x.debt(0, 1, 100);
        x.visit(1, 0, 3, 0);
        due(0, x.plan(NONE));
        x.cancel();
        x.visit(1, 0, 2, 0);
        x.visit(1, 0, 1, 0);
        due(2, x.plan(NONE));
        x.visit(0, 1, 1, 0);
        due(0, x.plan(NONE));
    }

    @Says("then the owner REPAYS up to SETTLE")
    static void t3_visits_thenTheOwnerRepaysUpToSettle() {
        people(2);
        x.debt(0, 1, 60);
        x.debt(0, 1, 60);
        x.visit(1, 0, 2, 21);
        x.visit(1, 0, 2, 20);
        // 20 of 120 leave 100, 21 of 120 leave 99.
        due(1, x.plan(NONE));
        due(1, x.plan(0));
        due(0, x.plan(1));
        x.cancel();
        x.visit(1, 0, 2, 10);
        x.visit(1, 0, 2, 10);
        x.visit(1, 0, 2, 0);
        due(6, x.plan(NONE));
    }

    @Says("then the owner REPAYS up to SETTLE")
    static void t3_visits_nothingToRepayWithIsNoHindrance() {
        people(2);
        x.debt(0, 1, 50);
        x.put(0, 0, 0);
        for (int i = 0; i < 4; i++) x.visit(1, 0, 1, 999);
        due(24, x.plan(NONE));
        x.put(0, 0, 100);
        due(0, x.plan(NONE));
        x.put(1, 0, 9999);
        due(24, x.plan(NONE));
        x.put(1, 0, 9950);
        due(24, x.plan(NONE));
        x.put(1, 0, 9949);
        due(0, x.plan(NONE));
        x.put(0, 0, 49);
        due(24, x.plan(NONE));
    }

    @Says("then the owner REPAYS up to SETTLE")
    static void t3_visits_whoIsRepaidFirstLeavesTheNextNothing() {
        people(3);
        x.put(0, 0, 50);
        x.debt(0, 1, 50);
        x.debt(0, 2, 50);
        x.visit(1, 0, 1, 50);
        x.visit(2, 0, 1, 50);
        x.visit(2, 0, 1, 0);
        // The third can be behind the second if the first took all that 0 has.
        dues(new int[] {4, 0, 1, 2}, x.plan(NONE), x.plan(0), x.plan(1), x.plan(2));
    }

    @Says("the VISITOR gets as DEEP as the ROOM, then the owner REPAYS")
    static void t3_visits_ofTheLastAndTheFirstOfThePeople() {
        people(7);
        x.debt(6, 0, 50);
        x.debt(5, 6, 50);
        x.visit(0, 6, 1, 50);
        x.visit(6, 5, 1, 0);
        dues(new int[] {2, 0, 1}, x.plan(NONE), x.plan(0), x.plan(1));
        x.visit(6, 0, 1, 0);
        due(0, x.plan(NONE));
        rule("depth 1 if back+owes>0;depth 0 if back+owes=0");
        // Into 0 gets 6 for what 6 owes, until that is settled.
        dues(new int[] {3, 1, 2, 0}, x.plan(NONE), x.plan(0), x.plan(1), x.plan(2));
    }

    @Says("ROWS in which all VISITS can be, on paper.")
    static void t3_visits_onPaper() {
        people(3);
        x.debt(0, 1, 50);
        x.debt(1, 2, 70);
        x.visit(1, 0, 1, 50);
        x.visit(2, 1, 1, 70);
        String before = all();
        due(2, x.plan(NONE));
        same(before);
        dues(new int[] {100, 100, 100}, purses());
        dues(new int[] {0, 1, 50, 0, 1, 2, 70, 0}, debts());
    }

    // ------------------------------------------------------------------ thieves, shutting, parties

    @Says("A THIEF: DEBTS of the owner to others than the thief by which, were the thief their CREDITOR, a ROOM is open")
    static void t3_thief_debtsOfTheOwnerToOthers() {
        people(4);
        x.debt(0, 3, 60);
        x.debt(1, 2, 500);
        x.debt(0, 1, 39);
        due(NONE, x.thief(3, 0, 2, 0));
        x.debt(0, 2, 1);
        due(40, x.thief(3, 0, 2, 0));
        due(4 + 8, x.thief(3, 0, 2, 1));
        due(0, x.thief(3, 0, 1, 0));
        due(0, x.thief(3, 0, 1, 1));
    }

    @Says("were the thief their CREDITOR, a ROOM is open")
    static void t3_thief_whatTheThiefOwesIsAsked() {
        people(3);
        x.debt(2, 0, 7);
        x.debt(0, 1, 50);
        x.debt(1, 0, 9);
        rule("depth 1 if back=7 and owes=50;depth 0 if not (back=7 and owes=50)");
        dues(new int[] {50, 2}, x.thief(2, 0, 1, 0), x.thief(2, 0, 1, 1));
        due(NONE, x.thief(1, 0, 1, 0));
    }

    @Says("SOLD for the least together (PURSES aside)")
    static void t3_thief_forTheLeast() {
        people(3, 0);
        x.put(1, 0, 9999);
        rule("sells 1000*9/[amount/100]");
        x.debt(0, 1, 100);
        x.debt(0, 1, 300);
        x.debt(0, 1, 100);
        // 300 for 3,000, a hundred for 9,000 each.
        due(3000, x.thief(2, 0, 2, 0));
        due(2, x.thief(2, 0, 2, 1));
        due(0, x.of(2, 0));
    }

    @Says("then the fewest")
    static void t3_thief_thenTheFewest() {
        people(3);
        x.debt(0, 1, 40);
        x.debt(0, 1, 60);
        x.debt(0, 1, 100);
        due(100, x.thief(2, 0, 2, 0));
        due(4, x.thief(2, 0, 2, 1));
        rule("sells 0");
        due(0, x.thief(2, 0, 2, 0));
        due(4, x.thief(2, 0, 2, 1));
        rule("sells 0;depth 1");
        due(0, x.thief(2, 0, 1, 1));
    }

    @Says("then the lowest as bits. To SHUT")
    static void t3_thief_thenTheLowestAsBits() {
        people(3);
        for (int d = 0; d < 16; d++) x.debt(0, 1, d == 0 || d == 3 ? 40 : 50);
        rule("sells 7");
        due(14, x.thief(2, 0, 2, 0));
        due(2 + 4, x.thief(2, 0, 2, 1));
        due(28, x.thief(2, 0, 3, 0));
        due(2 + 4 + 16 + 32, x.thief(2, 0, 3, 1));
    }

    @Says("To SHUT a ROOM: the least AMOUNT 0 .. what the owner OWES the VISITOR, by which, if as much less were OWED, it is shut.")
    static void t3_shut_0ToWhatIsOwed() {
        people(2);
        due(0, x.shut(0, 1, 1));
        x.debt(0, 1, 1);
        due(1, x.shut(0, 1, 1));
        x.debt(0, 1, 99);
        due(100, x.shut(0, 1, 1));
        due(1, x.shut(0, 1, 2));
        due(0, x.shut(0, 1, 3));
        rule("depth 2 if owes=0;depth 3 if owes>0");
        due(100, x.shut(0, 1, 3));
        due(NONE, x.shut(0, 1, 2));
        due(NONE, x.shut(0, 1, 1));
    }

    @Says("the least AMOUNT 0 .. what the owner OWES the VISITOR")
    static void t3_shut_theLeastOfMany() {
        people(2);
        for (int d = 0; d < 16; d++) x.debt(0, 1, 9999);
        due(159984, x.shut(0, 1, 1));
        due(159885, x.shut(0, 1, 2));
        rule("depth 1;bars if owes=9 or owes=7");
        due(159975, x.shut(0, 1, 1));
        due(159984, x.owes(0, 1));
    }

    @Says("To BAN one: SHUT ROOM 1 of all HOUSES, all AMOUNTS together.")
    static void t3_ban_allHouses() {
        people(4);
        due(0, x.ban(3));
        x.debt(0, 3, 250);
        x.debt(1, 3, 1);
        x.debt(2, 3, 9999);
        x.debt(3, 0, 77);
        due(250 + 1 + 9999, x.ban(3));
        due(77, x.ban(0));
        due(0, x.ban(1));
    }

    @Says("A PARTY: the HOUSE into ROOM 1 of which all others get by the least NEEDS together, the lowest.")
    static void t3_party_theLeastNeedsTheLowest() {
        people(3);
        due(0, x.party(0));
        due(2, x.party(1));
        rule("depth 1 if owes>9;depth 0 if owes<10");
        x.debt(0, 1, 9);
        x.debt(1, 2, 9);
        x.debt(2, 1, 4);
        x.debt(2, 0, 5);
        due(0, x.party(0));
        due(11, x.party(1));
        x.debt(2, 1, 1);
        due(2, x.party(0));
        due(10, x.party(1));
        x.debt(1, 0, 1);
        due(1, x.party(0));
        due(10, x.party(1));
    }

    // ------------------------------------------------------------------ rings, payments

    @Says("A RING: PEOPLE each of whom OWES the next one, the last the first: the fewest")
    static void t3_ring_theFewest() {
        people(5);
        x.debt(0, 1, 1);
        x.debt(1, 2, 1);
        due(NONE, x.ring(NONE));
        x.debt(2, 0, 1);
        due(3, x.ring(NONE));
        x.debt(4, 3, 1);
        x.debt(3, 4, 1);
        due(2, x.ring(NONE));
        due(3, x.ring(0));
        due(4, x.ring(1));
    }

    @Says("then the lowest as bits, begun with the lowest")
    static void t3_ring_theLowestAsBits() {
        people(7);
        for (int[] pair : new int[][] {{6, 0}, {5, 2}, {4, 3}}) {
            x.debt(pair[0], pair[1], 1);
            x.debt(pair[1], pair[0], 1);
        }
        // 65, 36, 24.
        due(3, x.ring(0));
        due(4, x.ring(1));
        due(1, x.forgive(5));
        due(2, x.ring(0));
        due(5, x.ring(1));
        due(1, x.forgive(3));
        due(0, x.ring(0));
        due(6, x.ring(1));
    }

    @Says("PEOPLE each of whom OWES the next one, the last the first")
    static void t3_ring_noneAnyMore() {
        people(7);
        x.debt(0, 6, 1);
        x.debt(6, 0, 1);
        due(2, x.ring(NONE));
        due(1, x.forgive(0));
        due(NONE, x.ring(NONE));
        x.debt(0, 6, 1);
        due(2, x.ring(NONE));
        due(1, x.forgive(0));
        due(NONE, x.ring(NONE));
    }

    @Says("begun with the lowest; of alike ones the first as a row.")
    static void t3_ring_asARowBegunWithTheLowest() {
        people(5);
        x.debt(4, 3, 1);
        x.debt(3, 1, 1);
        x.debt(1, 4, 1);
        dues(new int[] {3, 1, 4, 3}, x.ring(NONE), x.ring(0), x.ring(1), x.ring(2));
        anew();
        people(4);
        for (int[] pair : new int[][] {{0, 3}, {3, 2}, {2, 1}, {1, 0}}) x.debt(pair[0], pair[1], 1);
        dues(new int[] {4, 0, 3, 2, 1}, x.ring(NONE), x.ring(0), x.ring(1), x.ring(2), x.ring(3));
        // A debt across makes a ring of fewer: the fewest are a ring in one row alone.
        x.debt(0, 2, 1);
        dues(new int[] {3, 0, 2, 1}, x.ring(NONE), x.ring(0), x.ring(1), x.ring(2));
        x.debt(1, 2, 1);
        dues(new int[] {2, 1, 2}, x.ring(NONE), x.ring(0), x.ring(1));
    }

    @Says("To CLEAR it: each OWES the next one as much less as the least of these OWES is (DEBTS in their order).")
    static void t3_clear_byTheLeastDebtsInTheirOrder() {
        people(4);
        x.debt(0, 1, 10);
        x.debt(0, 2, 99);
        x.debt(0, 1, 20);
        x.debt(1, 3, 15);
        x.debt(1, 3, 10);
        x.debt(3, 0, 90);
        taken(25, x.clear());
        dues(new int[] {0, 2, 99, 0, 0, 1, 5, 0, 3, 0, 65, 0}, debts());
        dues(new int[] {100, 100, 100, 100}, purses());
    }

    @Says("BALANCE: what all OWE one less what that one OWES.")
    static void t3_balance() {
        people(3);
        due(0, x.balance(0));
        x.debt(0, 1, 9);
        x.debt(2, 1, 5);
        x.debt(1, 2, 8);
        dues(new int[] {-9, 6, 3}, x.balance(0), x.balance(1), x.balance(2));
    }

    @Says("The fewest PAYMENTS by which all BALANCES are 0.")
    static void t3_payments() {
        people(7);
        due(0, x.payments());
        x.debt(0, 1, 5);
        due(1, x.payments());
        x.debt(1, 0, 5);
        due(0, x.payments());
        x.debt(2, 3, 6);
        x.debt(4, 5, 6);
        due(2, x.payments());
        x.debt(3, 4, 2);
        // -6, 4, -4, 6 of 2 .. 5: two pairs.
        due(2, x.payments());
        x.debt(6, 2, 1);
        // -5, -1, 6 need two, 4, -4 one.
        due(3, x.payments());
    }

    // ------------------------------------------------------------------ scuffs

    @Says("A SCUFF is so, if the VISITOR gets as DEEP just if that was told.")
    static void t3_scuff_isSo() {
        people(3);
        x.debt(0, 1, 100);
        x.debt(1, 2, 1);
        // Without the debt of 1 to 2 nothing is otherwise in house 0.
        int[][] rows = {{1, 1, 1}, {1, 0, 0}, {2, 1, 1}, {2, 0, 0}, {3, 1, 0}, {3, 0, 1}};
        for (int[] row : rows) {
            x.sweep();
            x.scuff(1, 0, row[0], row[1]);
            due(row[2], x.denied() >> 1 & 1);
        }
        x.scuff(1, 0, 2, 1);
        due(1, x.denied() >> 1 & 1);
        x.scuff(2, 0, 1, 1);
        due(0, x.denied());
    }

    @Says("SECRETS: one DEBT more (DEBTOR, CREDITOR, AMOUNT 20, 40 .. 200)")
    static void t3_secrets_20To200() {
        people(2);
        due(20, x.secret(NONE));
        for (int step = 0; step < 10; step++) {
            due(10 + step, x.secret(step));
            due(70 + step, x.secret(10 + step));
        }
        x.scuff(1, 0, 3, 1);
        String ends = "(owes=20 or owes=200)";
        rule("depth 3 if " + ends + ";depth 0 if not " + ends);
        dues(new int[] {2, 10, 19, NONE}, x.secret(NONE), x.secret(0), x.secret(1), x.secret(2));
        String others = "(owes=10 or owes=19 or owes=21 or owes=30 or owes=199 or owes=201 or owes=220)";
        rule("depth 3 if " + others + ";depth 0 if not " + others);
        due(0, x.secret(NONE));
    }

    @Says("DENIED: one DEBT less, by which all SCUFFS are so.")
    static void t3_denied_oneDebtLess() {
        people(3);
        due(0, x.denied());
        for (int d = 0; d < 16; d++) x.debt(0, 1, d == 15 ? 200 : 1);
        due(65535, x.denied());
        x.scuff(1, 0, 2, 0);
        due(32768, x.denied());
        x.scuff(2, 0, 1, 0);
        due(32768, x.denied());
        x.scuff(1, 0, 1, 0);
        due(0, x.denied());
        due(16, x.count(1));
    }
}
