/** Terms, part II: laws. */
final class SentencesOfTerms2Laws extends Sentences {

    /** A new object with three people and a law in force. */
    private static void under(String law) {
        anew();
        due(0, x.person(100, 3, 11));
        due(1, x.person(100, 2, 0));
        due(2, x.person(100, 1, 99));
        rule(law);
    }

    @Says("LAWS, 6 at most")
    static void t2_laws_sixAtMost() {
        for (int n = 0; n < 6; n++) taken(n, law("depth " + n));
        refused(-5, law("depth 6"));
        due(6, x.count(4));
        people(2);
        taken(NONE, x.force(5));
        due(3, x.deep(0, 1));
        refused(-2, x.force(6));
    }

    @Says("one is in FORCE (NONE at first: no CLAUSE)")
    static void t2_laws_noneAtFirst() {
        due(NONE, x.count(12));
        people(2);
        x.debt(0, 1, 150);
        law("bars;sells 1;grows 9");
        due(NONE, x.count(12));
        due(2, x.deep(0, 1));
        due(150, x.at(0, 4));
        due(0, x.at(0, 5));
        due(NONE, x.force(0));
        due(0, x.deep(0, 1));
        due(1, x.at(0, 4));
        due(9, x.at(0, 5));
        due(0, x.force(NONE));
        due(2, x.deep(0, 1));
        due(150, x.at(0, 4));
        due(0, x.at(0, 5));
    }

    @Says("CLAUSE: ((\"depth\" | \"grows\" | \"sells\") SUM | \"bars\") [\"if\" TEST].")
    static void t2_laws_faults() {
        lawFault(0, "lend 1 to 2 of 3");
        lawFault(0, "wait");
        lawFault(0, "if 1=1");
        lawFault(5, "depth");
        lawFault(5, "depth;bars");
        lawFault(5, "bars 1");
        lawFault(7, "bars if");
        lawFault(9, "bars if 1");
        lawFault(12, "bars if 1=1 if 1=1");
        lawFault(8, "depth 1 times 2");
        lawFault(8, "depth 1 to 2");
        lawFault(6, "depth bars");
        lawFault(8, "grows 1 sells 1");
    }

    @Says("Words: \"owner\" | \"visitor\" | \"owes\" | \"back\" | \"rooms\" | \"wary\" | \"amount\" | \"age\" | \"day\" | \"mood\".")
    static void t2_laws_words() {
        lawReads("sells owner+visitor+owes+back+rooms+wary+amount+age+day+mood");
        lawFault(6, "sells debts");
        lawFault(6, "sells done");
        lawFault(6, "sells last");
        lawFault(6, "sells purse 1");
        lawFault(6, "sells owed 1 2");
        lawFault(6, "sells owners");
        lawFault(6, "sells owe");
        lawFault(6, "sells o");
        lawFault(6, "sells moods");
    }

    @Says("A CLAUSE HOLDS, if its \"if\" (if it has one) is so, and neither that nor its SUM is BROKEN.")
    static void t2_laws_holds() {
        under("depth 2 if 1=1");
        due(2, x.deep(0, 1));
        under("depth 2 if 1=0");
        due(0, x.deep(0, 1));
        under("depth 2");
        due(2, x.deep(0, 1));
        under("depth 1;depth 1/0");
        due(1, x.deep(0, 1));
        under("depth 1;depth 2 if 1/0=1");
        due(1, x.deep(0, 1));
        under("depth 1;depth 2 if not 1/0=1");
        due(1, x.deep(0, 1));
        under("depth 1;depth 1000*1000*1000+1 if 1=1");
        due(1, x.deep(0, 1));
        under("depth 1;depth 1/0 if 1=1;depth 2 if 1=1/0");
        due(1, x.deep(0, 1));
    }

    @Says("\"depth\" and \"bars\" are asked of an owner and a visitor (owes: what the owner OWES the visitor, back: the visitor the owner; rooms, wary: of the owner; amount, age -1)")
    static void t2_laws_askedOfAnOwnerAndAVisitor() {
        under("depth 3 if owner=0 and visitor=2 and owes=7 and back=9 and rooms=3 and wary=11 and day=5 and mood=4;depth 0 if mood=0");
        x.terms(0, 5);
        x.debt(0, 2, 3);
        x.debt(0, 2, 4);
        x.debt(2, 0, 9);
        due(0, x.deep(0, 2));
        x.terms(1, 4);
        due(3, x.deep(0, 2));
        due(1, x.deep(2, 0));
        due(0, x.deep(0, 1));
        x.terms(0, 6);
        due(1, x.deep(0, 2));
    }

    @Says("amount, age -1), \"grows\"")
    static void t2_laws_amountAndAgeAreMinus1OfDoors() {
        under("depth 2+amount+age*0;bars if not age=0-1 or not amount=0-1");
        due(1, x.deep(0, 1));
        x.debt(0, 1, 500);
        x.terms(0, 9);
        // Asked of a debt ahead of it, a word keeps nothing of that.
        due(500, x.at(0, 4));
        due(1, x.deep(0, 1));
        under("depth 2+amount;bars if not age=0-1;grows 5 if age=1 and amount=50;sells 7 if age>0");
        x.debt(0, 1, 50);
        due(2, x.await());
        due(7, x.at(0, 4));
        due(1, x.deep(0, 1));
    }

    @Says("\"grows\" and \"sells\" of a DEBT (owner: the DEBTOR, visitor: the CREDITOR; owes, back, rooms, wary as before; amount, age: DAY less its own).")
    static void t2_laws_askedOfADebt() {
        under("sells 77 if owner=2 and visitor=1 and owes=30 and back=6 and rooms=1 and wary=99 and amount=20 and age=3 and day=8 and mood=9;"
            + "grows age*10+amount/10+owner+visitor");
        x.terms(1, 9);
        x.debt(1, 2, 6);
        x.terms(0, 5);
        x.debt(2, 1, 20);
        x.debt(2, 1, 10);
        x.terms(0, 8);
        due(77, x.at(1, 4));
        due(10, x.at(2, 4));
        due(6, x.at(0, 4));
        due(30 + 2 + 3, x.at(1, 5));
        due(30 + 1 + 3, x.at(2, 5));
        due(80 + 0 + 3, x.at(0, 5));
    }

    @Says("amount, age: DAY less its own")
    static void t2_laws_ageCanBeBelow0() {
        under("sells 50+age;grows 1 if age<0;grows 2 if age=0");
        x.terms(0, 30);
        x.debt(0, 1, 5);
        due(50, x.at(0, 4));
        due(2, x.at(0, 5));
        x.terms(0, 0);
        due(20, x.at(0, 4));
        due(1, x.at(0, 5));
        x.terms(0, 999);
        due(1019, x.at(0, 4));
        due(0, x.at(0, 5));
    }

    @Says("One gets as DEEP as the last \"depth\" that HOLDS tells")
    static void t2_laws_theLastDepthThatHolds() {
        under("depth 3;depth 1;depth 2;grows 3;depth 0 if visitor=2");
        due(2, x.deep(0, 1));
        due(0, x.deep(0, 2));
        under("depth 2 if 1=1;depth 0");
        due(0, x.deep(0, 1));
    }

    @Says("0 .. ROOMS (else the nearest)")
    static void t2_laws_depth0ToRooms() {
        for (int told = -2; told <= 5; told++) {
            under("depth " + (told < 0 ? "0-" + -told : "" + told));
            due(Math.max(0, Math.min(3, told)), x.deep(0, 1));
            due(Math.max(0, Math.min(2, told)), x.deep(1, 0));
            due(Math.max(0, Math.min(1, told)), x.deep(2, 0));
        }
        under("depth 1000*1000*1000");
        due(3, x.deep(0, 1));
        under("depth 0-1000*1000*1000");
        due(0, x.deep(0, 1));
    }

    @Says("without one 0 if the owner OWES nothing, else 1 and one more for each 100 it OWES, ROOMS at most")
    static void t2_laws_depthWithoutOne() {
        under("grows 1;sells 2;depth 3 if 1=0");
        due(0, x.deep(0, 1));
        int[][] owed = {{1, 1}, {99, 1}, {100, 2}, {199, 2}, {200, 3}, {299, 3}, {300, 3}, {10298, 3}};
        for (int[] row : owed) {
            x.debt(0, 1, row[0] - x.owes(0, 1));
            due(row[0], x.owes(0, 1));
            due(row[1], x.deep(0, 1));
        }
        due(0, x.deep(1, 0));
    }

    @Says("ROOMS at most; 0 if \"bars\" HOLDS")
    static void t2_laws_depthWithoutOneRoomsAtMost() {
        under("grows 1");
        for (int p = 0; p < 3; p++) x.debt(p, (p + 1) % 3, 9999);
        due(3, x.deep(0, 1));
        due(2, x.deep(1, 2));
        due(1, x.deep(2, 0));
        x.put(0, 1, 1);
        due(1, x.deep(0, 1));
    }

    @Says("0 if \"bars\" HOLDS.")
    static void t2_laws_bars() {
        under("bars if visitor=1;depth 3");
        due(0, x.deep(0, 1));
        due(3, x.deep(0, 2));
        under("depth 3;bars if visitor=1;bars if 1=0");
        due(0, x.deep(0, 1));
        due(3, x.deep(0, 2));
        under("bars if owes=500");
        x.debt(0, 1, 500);
        due(0, x.deep(0, 1));
        x.debt(0, 2, 499);
        due(3, x.deep(0, 2));
        under("bars");
        due(0, x.deep(0, 1));
        due(0, x.doors(1));
    }

    @Says("0 if \"bars\" HOLDS.")
    static void t2_laws_barsThatAreBroken() {
        under("depth 2;bars if 1/0=1;bars if not 1/0=1;bars if 1/0=1 or 1=1");
        due(2, x.deep(0, 1));
        under("depth 1/0;bars");
        due(0, x.deep(0, 1));
    }

    @Says("A DEBT GROWS by as many hundredths as \"grows\" tells, 0 .. 99, 0 without")
    static void t2_laws_grows0To99() {
        int[][] rows = {{0, 0}, {1, 1}, {98, 98}, {99, 99}, {100, 99}, {1000, 99}};
        for (int[] row : rows) {
            under("grows " + row[0]);
            x.debt(0, 1, 100);
            due(row[1], x.at(0, 5));
            due(row[1], x.await());
        }
        under("grows 0-1");
        x.debt(0, 1, 100);
        due(0, x.at(0, 5));
        due(0, x.await());
    }

    @Says("0 .. 99, 0 without; is SOLD")
    static void t2_laws_grows0Without() {
        for (String law : new String[] {"depth 5;sells 5", "grows 5 if 1=0", "grows 1/0", "grows 5 if 1/0=1"}) {
            under(law);
            x.debt(0, 1, 100);
            due(0, x.at(0, 5));
            due(0, x.await());
        }
        under("grows 5;grows 6;grows 7 if 1=0;grows 1/0");
        x.debt(0, 1, 100);
        due(6, x.at(0, 5));
    }

    @Says("is SOLD for what \"sells\" tells, 0 .. 9,999, its AMOUNT without.")
    static void t2_laws_sells0To9999() {
        String[] sums = {"0-1", "0", "1", "9*1000+998", "9*1000+999", "10*1000", "1000*1000*1000"};
        int[] want = {0, 0, 1, 9998, 9999, 9999, 9999};
        for (int i = 0; i < sums.length; i++) {
            under("sells " + sums[i]);
            x.debt(0, 1, 100);
            due(want[i], x.at(0, 4));
        }
    }

    @Says("its AMOUNT without.")
    static void t2_laws_sellsItsAmountWithout() {
        for (String law : new String[] {"depth 5;grows 5", "sells 5 if 1=0", "sells 1/0", "sells 5 if 1/0=1"}) {
            under(law);
            x.debt(0, 1, 100);
            x.debt(0, 1, 9999);
            due(100, x.at(0, 4));
            due(9999, x.at(1, 4));
        }
        under("sells 5;sells 6;sells 7 if 1=0;sells 1/0");
        x.debt(0, 1, 100);
        due(6, x.at(0, 4));
    }
}
