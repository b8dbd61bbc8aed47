/** Promises 9 to 17: the tape, rows, laws, orders. */
final class Sentences09To17 extends Sentences {

    // ------------------------------------------------------------------ promises 9, 10

    @Says("Twenty bytes come behind the TAPE, four of each number, the highest first: how many it has.")
    static void p09_feed_fourOfEachTheHighestFirst() {
        due(20, x.feed(0x64657074, 0x68203120, 0x69662031, 0x3D313B62, 0x61727320));
        due(40, x.feed(0x69662076, 0x69736974, 0x6F723D31, 0x20202020, 0x20202020));
        due(40, x.count(6));
        due(0, x.law());
        people(3);
        x.force(0);
        due(0, x.deep(0, 1));
        due(1, x.deep(0, 2));
    }

    @Says("four of each number, the highest first")
    static void p09_feed_bytesAbove127() {
        people(7);
        due(20, x.feed(0x000100FF, 0x02030080, 0x04057FFF, 0x060026FF, 0xFFFEFDFC));
        due(3, x.row());
        dues(new int[] {255, 128, 9983}, x.at(0, 2), x.at(1, 2), x.at(2, 2));
        dues(new int[] {6, 0}, x.at(2, 0), x.at(2, 1));
        due(2, x.blots());
        due(20, x.feed(MIN, MAX, -1, 1, 0));
    }

    @Says("NONE, if there would be more than 400.")
    static void p09_feed_noneBeyond400() {
        for (int n = 20; n <= 400; n += 20) due(n, x.feed(1, 2, 3, 4, 5));
        due(NONE, x.feed(1, 2, 3, 4, 5));
        due(400, x.count(6));
        due(381, x.end(381));
        due(NONE, x.feed(1, 2, 3, 4, 5));
        due(381, x.count(6));
        due(380, x.end(380));
        due(400, x.feed(1, 2, 3, 4, 5));
        due(0, x.status());
    }

    @Says("The TAPE has its first n bytes alone: n.")
    static void p10_end_theFirstBytesAlone() {
        due(0, x.end(0));
        x.feed(0x62617273, 0x7A7A7A7A, 0, 0, 0);
        due(20, x.end(20));
        due(5, x.end(5));
        due(4, x.end(4));
        due(4, x.count(6));
        due(24, x.feed(0x3B626172, 0x73000000, 0, 0, 0));
        due(9, x.end(9));
        due(0, x.law());
        x.feed(1, 1, 1, 1, 1);
        due(0, x.end(0));
        due(0, x.count(6));
    }

    @Says("NONE, if it has not so many, or n is below 0.")
    static void p10_end_none() {
        due(NONE, x.end(1));
        due(NONE, x.end(-1));
        x.feed(0, 0, 0, 0, 0);
        for (int n : new int[] {21, -1, 400, 401, MIN, MAX}) due(NONE, x.end(n));
        due(20, x.count(6));
        due(7, x.end(7));
        due(NONE, x.end(8));
        due(7, x.count(6));
        due(0, x.status());
    }

    // ------------------------------------------------------------------ promises 11, 12

    @Says("A ROW, the TAPE is empty then: how many DEBTS came.")
    static void p11_row_howManyCame() {
        people(3);
        tape(0, 1, 0, 5, 1, 1, 0, 5, 2, 0, 1, 0);
        taken(2, x.row());
        due(0, x.count(6));
        dues(new int[] {0, 1, 5, 0, 2, 0, 256, 0}, debts());
        dues(new int[] {100, 100, 100}, purses());
        tape(9);
        taken(0, x.row());
        due(0, x.count(6));
    }

    @Says("-6 the TAPE is empty.")
    static void p11_row_minus6_theTapeIsEmpty() {
        refused(-6, x.row());
        people(2);
        tape(0, 1, 0, 5);
        due(0, x.end(0));
        refused(-6, x.row());
        tape(0, 1, 0, 5);
        due(1, x.row());
        refused(-6, x.row());
        due(1, x.count(1));
    }

    @Says("How many BLOTS the latest row() had that was not REFUSED")
    static void p12_blots_ofTheLatestThatWasNotRefused() {
        people(2);
        tape(0, 1, 0, 1, 0, 1, 0, 0, 5);
        due(1, x.row());
        due(2, x.blots());
        refused(-6, x.row());
        due(2, x.blots());
        tape(0, 1, 0, 1);
        due(1, x.row());
        due(0, x.blots());
    }

    @Says("(0 ahead of any)")
    static void p12_blots_0AheadOfAny() {
        due(0, x.blots());
        refused(-6, x.row());
        due(0, x.blots());
    }

    // ------------------------------------------------------------------ promise 13

    @Says("The TAPE, which is empty then, becomes a LAW: its number.")
    static void p13_law_itsNumber() {
        for (int n = 0; n < 6; n++) {
            taken(n, law("depth 1" + ";bars if 1=0".repeat(n)));
            due(0, x.count(6));
            due(n + 1, x.count(4));
        }
    }

    @Says("The TAPE, which is empty then")
    static void p13_law_theTapeIsEmptyWhenRefusedToo() {
        text("junk");
        refused(-6, x.law());
        due(0, x.count(6));
        due(0, x.count(4));
        refused(-6, x.law());
        due(0, x.fault());
    }

    @Says("-5 (ahead of reading it; the TAPE is empty then, too)")
    static void p13_law_minus5_sixAreThere() {
        for (int n = 0; n < 6; n++) law("bars");
        lawFaultStays(NONE);
        refused(-6, orders("wait;;"));
        lawFaultStays(5);
        due(6, x.count(4));
    }

    private static void lawFaultStays(int fault) {
        for (String text : new String[] {"bars", "junk", ""}) {
            text(text);
            refused(-5, x.law());
            due(0, x.count(6));
            due(fault, x.fault());
        }
    }

    @Says("-6 (blanks alone: FAULT at the end).")
    static void p13_law_minus6_blanksAlone() {
        refused(-6, law(" "));
        due(1, x.fault());
        refused(-6, law(" ".repeat(400)));
        due(400, x.fault());
        refused(-6, law(""));
        due(0, x.fault());
        due(0, x.count(4));
    }

    // ------------------------------------------------------------------ promise 14

    @Says("ORDERS, the TAPE is empty then: how many were run.")
    static void p14_orders_howManyWereRun() {
        people(2);
        taken(1, orders("wait"));
        due(0, x.count(6));
        taken(0, orders("wait if 1=0"));
        taken(7, orders("wait times 5;lend 0 to 1 of 5;wait if 1=0;repay 1 to 0 of 9"));
        taken(20 * 12, orders("wait times 20" + ";wait times 20".repeat(11)));
        due(246, x.count(13));
        refused(-6, orders("wait 1"));
        due(0, x.count(6));
    }

    @Says("-3 one can't be")
    static void p14_orders_minus3_oneCantBe() {
        people(2);
        refused(-3, orders("lend 0 to 1 of 101"));
        due(0, x.count(6));
        refused(-3, orders("lend 0 to 1 of 0"));
        refused(-3, orders("lend 0 to 2 of 1"));
        refused(-3, orders("lend 0 to 0 of 1"));
        refused(-3, orders("repay 0 to 1 of 1"));
        refused(-3, orders("repay 0 to 1 of 1/0"));
        due(0, x.count(1));
        String days = "wait times 20" + ";wait times 20".repeat(11);
        x.terms(0, 760);
        refused(-3, orders(days));
        due(760, x.count(13));
        x.terms(0, 759);
        taken(240, orders(days));
        due(999, x.count(13));
    }

    @Says("-5 one has no room")
    static void p14_orders_minus5_oneHasNoRoom() {
        people(2);
        refused(-5, orders("lend 0 to 1 of 1 times 17"));
        due(0, x.count(1));
        taken(16, orders("lend 0 to 1 of 1 times 16"));
        refused(-5, orders("wait;lend 0 to 1 of 1"));
        refused(-3, orders("wait;lend 0 to 1 of 85"));
        taken(2, orders("repay 1 to 0 of 1;lend 0 to 1 of 1"));
    }

    @Says("-6 (as for law())")
    static void p14_orders_minus6_blanksAlone() {
        refused(-6, orders(""));
        due(0, x.fault());
        refused(-6, orders("   "));
        due(3, x.fault());
        refused(-6, orders(" ".repeat(400)));
        due(400, x.fault());
    }

    // ------------------------------------------------------------------ promises 15, 16

    @Says("FAULT of the latest law(), orders() that read a TEXT: its place;")
    static void p15_fault_ofTheLatestThatReadAText() {
        lawFault(5, "bars bars");
        lawFault(9, "bars;bars1");
        ordersFault(5, "wait;bars");
        refused(-6, x.row());
        due(5, x.fault());
        for (int n = 0; n < 6; n++) law("bars");
        ordersFault(5, "wait 5");
        refused(-5, law("junk"));
        due(5, x.fault());
    }

    @Says("NONE without.")
    static void p15_fault_noneWithout() {
        due(NONE, x.fault());
        lawFault(0, "junk");
        due(0, law("bars"));
        due(NONE, x.fault());
        ordersFault(0, "junk");
        refused(-3, orders("lend 0 to 1 of 1"));
        due(NONE, x.fault());
        ordersFault(0, "junk");
        due(1, orders("wait"));
        due(NONE, x.fault());
    }

    @Says("Which CLAUSE (0 on) of the latest orders() could not be.")
    static void p16_stopped_whichClause() {
        people(2);
        for (int n = 0; n < 12; n++) {
            refused(-3, orders("wait;".repeat(n) + "lend 0 to 1 of 999" + ";wait".repeat(11 - n)));
            due(n, x.stopped());
        }
        refused(-3, orders("wait if 1=0;wait if 1=0;repay 0 to 1 of 1"));
        due(2, x.stopped());
        refused(-5, orders("wait;lend 0 to 1 of 1 times 20"));
        due(1, x.stopped());
        due(0, law("bars"));
        refused(-6, law("junk"));
        due(1, x.stopped());
    }

    @Says("NONE (that was done, or REFUSED by -6; ahead of any).")
    static void p16_stopped_none() {
        due(NONE, x.stopped());
        refused(-3, orders("wait;lend 0 to 1 of 1"));
        due(1, x.stopped());
        due(1, orders("wait"));
        due(NONE, x.stopped());
        refused(-3, orders("lend 0 to 1 of 1"));
        due(0, x.stopped());
        refused(-6, orders("wait;lend"));
        due(NONE, x.stopped());
        refused(-3, orders("lend 0 to 1 of 1"));
        refused(-6, orders(""));
        due(NONE, x.stopped());
        due(0, orders("lend 0 to 1 of 1 if 1=0"));
        due(NONE, x.stopped());
    }

    // ------------------------------------------------------------------ promise 17

    @Says("A LAW is in FORCE (NONE: none): which was.")
    static void p17_force_whichWas() {
        taken(NONE, x.force(NONE));
        law("depth 1");
        law("depth 2");
        people(2);
        taken(NONE, x.force(1));
        due(2, x.deep(0, 1));
        taken(1, x.force(1));
        taken(1, x.force(0));
        due(1, x.deep(0, 1));
        taken(0, x.force(NONE));
        due(0, x.deep(0, 1));
        taken(NONE, x.force(1));
    }

    @Says("-2.")
    static void p17_force_minus2_noSuchLaw() {
        refused(-2, x.force(0));
        law("bars");
        law("bars");
        x.force(1);
        for (int n : new int[] {2, 5, 6, -2, MIN, MAX}) refused(-2, x.force(n));
        due(1, x.count(12));
    }
}
