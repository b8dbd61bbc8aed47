/** Terms, part II: texts, what laws and orders have in common; orders. */
final class SentencesOfTerms2 extends Sentences {
    static final String TWELVE_BARS = "bars" + ";bars".repeat(11);
    static final String TWELVE_WAITS = "wait" + ";wait".repeat(11);
    /** Fifty parts in 104 bytes. */
    static final String FIFTY = "sells 1" + "+1".repeat(49);

    // ------------------------------------------------------------------ tokens

    @Says("TEXTS are on a TAPE of at most 400 bytes.")
    static void t2_texts_ofAllTheTape() {
        String text = "depth 3" + " ".repeat(388) + "if1=1";
        due(400, text.length());
        text(text);
        due(400, x.count(6));
        taken(0, x.law());
        people(2);
        due(NONE, x.force(0));
        due(3, x.deep(0, 1));
    }

    @Says("TEXTS are on a TAPE of at most 400 bytes.")
    static void t2_texts_faultAtTheEndOfAFullTape() {
        lawFault(400, "bars if " + "not ".repeat(98));
        lawFault(399, "bars" + " ".repeat(395) + "x");
        lawFault(400, "bars" + " ".repeat(395) + ";");
    }

    @Says("TOKENS: longest rows of letters a .. z")
    static void t2_tokens_longestRowsOfLetters() {
        lawFault(0, "depthowes");
        lawFault(6, "depth owesif 1=1");
        lawFault(4, "bars`");
        lawFault(4, "bars{");
        lawFault(4, "barsA");
        lawFault(4, "barsZ");
        lawFault(0, "Bars");
        lawFault(4, "bars" + (char) 225);
        lawFault(0, "bar");
        lawFault(0, "barsz");
        lawFault(0, "abars");
    }

    @Says("longest rows of letters a .. z, of digits")
    static void t2_tokens_longestRowsOfDigits() {
        lawReads("depth1if1=1");
        lawReads("sells 0if owes<9and back>0");
        lawFault(8, "depth 9 9");
        lawFault(8, "depth 9/");
        lawFault(7, "depth 9:");
        lawFault(6, "depth /9");
        lawFault(6, "depth :9");
        lawFault(7, "depth 1owes");
        lawFault(10, "depth owes1");
    }

    @Says("single other bytes")
    static void t2_tokens_singleOtherBytes() {
        lawReads("depth[[1]]if((1=1))");
        lawFault(10, "bars;bars;;bars");
        lawFault(10, "bars if 1==1");
        lawFault(10, "bars if 1<=1");
        lawFault(8, "depth 1++1");
        lawFault(4, "bars" + (char) 255);
        lawFault(4, "bars" + (char) 128 + "if 1=1");
        lawFault(0, (char) 0 + "bars");
        lawFault(4, "bars" + (char) 0);
    }

    @Says("any blanks (32) between")
    static void t2_tokens_anyBlanksBetween() {
        lawReads("  depth   1   if   1   =   1  ;  bars  ");
        lawReads("depth 1if(1=1);bars");
        for (int sign : new int[] {9, 10, 13, 31, 33, 160}) lawFault(5, "bars " + (char) sign + "if 1=1");
    }

    // ------------------------------------------------------------------ clauses, tests, sums

    @Says("Of both languages: CLAUSE {\";\" CLAUSE}, 12 at most")
    static void t2_clauses_twelveAtMost() {
        lawReads(TWELVE_BARS);
        lawReads("bars");
        due(12, orders(TWELVE_WAITS));
        due(1, orders("wait"));
    }

    @Says("(FAULT at the 13th's first TOKEN)")
    static void t2_clauses_faultAtTheThirteenth() {
        lawFault(60, TWELVE_BARS + ";bars");
        lawFault(63, TWELVE_BARS + " ;  bars");
        lawFault(60, TWELVE_BARS + ";7");
        lawFault(62, TWELVE_BARS + ";  ");
        ordersFault(60, TWELVE_WAITS + ";wait");
        ordersFault(60, TWELVE_WAITS + ";");
        due(0, x.count(13));
    }

    @Says("CLAUSE {\";\" CLAUSE}")
    static void t2_clauses_noneIsEmpty() {
        lawFault(0, ";");
        lawFault(5, "bars;");
        lawFault(5, "bars;;bars");
        ordersFault(0, ";wait");
        ordersFault(6, "wait; ");
        lawFault(5, "bars bars");
        ordersFault(5, "wait wait");
        lawFault(4, "bars,bars");
    }

    @Says("TEST: BOTH {\"or\" BOTH}. BOTH: PLAIN {\"and\" PLAIN}.")
    static void t2_tests_andBeforeOr() {
        so("1=1 or 1=1 and 1=0");
        notSo("(1=1 or 1=1) and 1=0");
        so("1=0 and 1=0 or 1=1");
        so("1=0 or 1=0 or 1=1");
        notSo("1=1 and 1=1 and 1=0");
        so("1=0 and 1=1 or 1=1 and 1=1");
        notSo("1=0 or 1=1 and 1=0 or 1=0");
    }

    @Says("PLAIN: \"not\" PLAIN | \"(\" TEST \")\" | SUM (\"<\" | \">\" | \"=\") SUM.")
    static void t2_tests_plain() {
        so("1<2");
        notSo("2<2");
        notSo("3<2");
        so("2>1");
        notSo("2>2");
        so("2=2");
        notSo("2=1");
        so("not 1=0");
        so("not not 1=1");
        notSo("not not not 1=1");
        so("not 1=0 and 1=1");
        notSo("not (1=0 or 1=1)");
        so("not not (1=1)");
    }

    @Says("PLAIN: \"not\" PLAIN | \"(\" TEST \")\" | SUM (\"<\" | \">\" | \"=\") SUM.")
    static void t2_tests_faults() {
        ordersFault(7, "wait if");
        ordersFault(9, "wait if 1");
        ordersFault(10, "wait if 1=");
        ordersFault(11, "wait if 1=1=1");
        ordersFault(11, "wait if not");
        ordersFault(14, "wait if 1=1 or");
        ordersFault(15, "wait if 1=1 or or 1=1");
        ordersFault(16, "wait if 1=1 and and 1=1");
        ordersFault(12, "wait if 1=1 not 1=1");
        ordersFault(9, "wait if ()");
        ordersFault(10, "wait if (1)=1");
        ordersFault(12, "wait if (1=1");
        ordersFault(12, "wait if (1=1]");
        ordersFault(11, "wait if 1=1)");
        ordersFault(13, "wait if (1=1)=1");
    }

    @Says("SUM: TERM {(\"+\" | \"-\") TERM}. TERM: PART {(\"*\" | \"/\" | \"%\") PART}.")
    static void t2_sums_fromTheLeftTermsFirst() {
        so("7-2-1=4");
        so("7-2+1=6");
        so("7-2*3=1");
        so("2*3-7=0-1");
        so("100/10/5=2");
        so("17%10%4=3");
        so("7/2*2=6");
        so("7*2/3=4");
        so("7*5%4=3");
        so("[7-2]*3=15");
        so("7-[2-1]=6");
        so("100/[10/5]=50");
    }

    @Says("PART: NUMBER (to 1,000) | \"[\" SUM \"]\" | a word, as told.")
    static void t2_parts_numbersTo1000() {
        lawReads("sells 1000");
        lawReads("sells 0");
        lawReads("sells 0000000000000000001000");
        lawFault(6, "sells 1001");
        lawFault(6, "sells 10000");
        lawFault(8, "sells 1+1001");
        ordersFault(8, "wait if 1001=1");
        so("1000=999+1");
    }

    @Says("NUMBER (to 1,000)")
    static void t2_parts_numbersThatWouldWrapAround() {
        lawFault(6, "sells 4294967296");
        lawFault(6, "sells 4294967297");
        lawFault(6, "sells 18446744073709551617");
        lawFault(6, "sells " + "9".repeat(394));
        ordersFault(11, "wait times 4294967297");
        ordersFault(14, "wait if purse 4294967296=1");
    }

    @Says("PART: NUMBER (to 1,000) | \"[\" SUM \"]\" | a word, as told.")
    static void t2_parts_faults() {
        lawFault(5, "sells");
        lawFault(6, "sells -1");
        lawFault(6, "sells +1");
        lawFault(8, "sells 1*");
        lawFault(8, "sells 1*/1");
        lawFault(7, "sells []");
        lawFault(8, "sells [1");
        lawFault(8, "sells [1)");
        lawFault(6, "sells (1)");
        lawFault(7, "sells 1]");
        lawFault(6, "sells if");
        lawFault(6, "sells x");
        lawFault(6, "sells ]");
    }

    @Says("50 PARTS that are NUMBERS and words (FAULT at the 51st)")
    static void t2_parts_fiftyAtMost() {
        lawReads(FIFTY);
        lawFault(106, FIFTY + "+1");
        lawFault(106, FIFTY + "+owes");
        lawFault(106, FIFTY + "-1+1");
        lawFault(106, FIFTY + "+1001");
        ordersRead("wait if 1" + "+1".repeat(48) + "=day");
        ordersFault(108, "wait if 1" + "+1".repeat(48) + "=1+day");
    }

    @Says("50 PARTS that are NUMBERS and words (FAULT at the 51st)")
    static void t2_parts_fiftyInAllClausesTogether() {
        String some = "bars if 1+1+1+1=1+1+1+1";
        lawReads((some + ";").repeat(6) + "depth 1+1");
        lawFault((some + ";").length() * 6 + 10, (some + ";").repeat(6) + "depth 1+1+1");
        lawFault(112, FIFTY + ";depth 1;");
        lawReads(FIFTY + ";bars");
        lawFault(114, FIFTY + ";bars if 1=1");
    }

    @Says("50 PARTS that are NUMBERS and words")
    static void t2_parts_bracketsAreNone() {
        lawReads("sells " + "[[1]]+".repeat(49) + "[[1]]");
        lawFault(6 + 50 * 6 + 2, "sells " + "[[1]]+".repeat(50) + "[[1]]");
    }

    @Says("8 brackets of both kinds within one another (FAULT at the 9th) at most.")
    static void t2_brackets_eightWithinOneAnother() {
        lawReads("sells " + "[".repeat(8) + "1" + "]".repeat(8));
        lawFault(14, "sells " + "[".repeat(9) + "1" + "]".repeat(9));
        lawReads("bars if " + "(".repeat(8) + "1=1" + ")".repeat(8));
        lawFault(16, "bars if " + "(".repeat(9) + "1=1" + ")".repeat(9));
        ordersRead("wait if " + "(".repeat(8) + "1=1" + ")".repeat(8));
        ordersFault(16, "wait if " + "(".repeat(9) + "1=1" + ")".repeat(9));
    }

    @Says("8 brackets of both kinds")
    static void t2_brackets_ofBothKindsTogether() {
        lawReads("bars if " + "(".repeat(5) + "[[[1]]]=1" + ")".repeat(5));
        lawFault(16, "bars if " + "(".repeat(5) + "[[[[1]]]]=1" + ")".repeat(5));
        lawFault(16, "bars if " + "(".repeat(8) + "[1]=1" + ")".repeat(8));
        lawFault(18, "bars if " + "(".repeat(8) + "1=[1]" + ")".repeat(8));
        lawFault(23, "bars if " + "(".repeat(8) + "1=1 and[1]=1" + ")".repeat(8));
    }

    @Says("8 brackets of both kinds within one another")
    static void t2_brackets_besideOneAnotherAreFree() {
        String eight = "[".repeat(8) + "1" + "]".repeat(8);
        lawReads("sells " + eight + "+" + eight + "*" + eight);
        String tests = "(".repeat(8) + "1=1" + ")".repeat(8);
        lawReads("bars if " + tests + " and " + tests + " or not " + tests + ";sells " + eight);
        due(0, x.person(5, 1, 1));
        ordersRead("lend " + eight + " to " + eight + " of " + eight);
    }

    @Says("FAULT: the first TOKEN that can't go on there (the end's: the TEXT's length).")
    static void t2_fault_firstTokenOrTheLength() {
        lawFault(8, "depth 1 2 junk");
        lawFault(3, "   bar junk");
        lawFault(7, "depth  ");
        lawFault(5, "depth");
        lawFault(0, "");
        lawFault(4, "    ");
        ordersFault(6, "lend 1");
        ordersFault(10, "lend 1    ");
    }

    @Says("(the end's: the TEXT's length)")
    static void t2_fault_lawsThatEndTooSoon() {
        String[] begun = {
            "depth", "depth 1+", "depth 1-", "depth 1*", "depth 1/", "depth 1%", "depth [", "depth [1", "depth [1+",
            "depth [[1]", "depth 1 if", "depth 1 if not", "depth 1 if (", "depth 1 if (1=1", "depth 1 if 1",
            "depth 1 if 1<", "depth 1 if 1>", "depth 1 if 1=1 and", "depth 1 if 1=1 or", "depth 1 if 1=1 and not",
            "bars if 1+", "bars if 1*", "bars if [1", "bars if (1=1 or", "bars;", "grows", "sells", "bars;sells 1-"};
        for (String text : begun) {
            lawFault(text.length(), text);
            lawFault(text.length() + 1, text + " ?");
            lawFault(text.length() + 2, text + "  ");
        }
        due(0, x.count(4));
    }

    @Says("(the end's: the TEXT's length)")
    static void t2_fault_ordersThatEndTooSoon() {
        String[] begun = {
            "lend", "repay", "lend 0", "lend 0 to", "lend 0 to 1", "lend 0 to 1 of", "lend 0+", "lend 0 to 1*",
            "lend 0 to 1 of 5-", "wait times", "wait if", "wait if purse", "wait if owed", "wait if owed 1",
            "wait if owed 1 2", "wait if day=", "wait if day=0 and", "wait if day=0 or", "wait if not", "wait;",
            "wait if (day=0", "wait if [day", "lend 0 to 1 of 5 times", "lend 0 to 1 of 5 times 2 if"};
        for (String text : begun) {
            ordersFault(text.length(), text);
            ordersFault(text.length() + 1, text + " ?");
            ordersFault(text.length() + 2, text + "  ");
        }
        due(0, x.count(13));
    }

    // ------------------------------------------------------------------ broken

    @Says("Beyond 1,000,000,000 either way, or divided by 0")
    static void t2_broken_beyondABillion() {
        so("1000*1000*1000>0");
        broken("1000*1000*1000+1>0");
        so("1000*1000*1000-1+1>0");
        so("0-1000*1000*1000<0");
        broken("0-1000*1000*1000-1<0");
        broken("1000*1000*1000-[0-1]>0");
        so("1000*1000*[0-1000]<0");
        broken("1000*1000*[0-1000]+[0-1]<0");
    }

    @Says("Beyond 1,000,000,000 either way")
    static void t2_broken_onTheWayToo() {
        broken("1000*1000*1000*2/4>0");
        broken("1000*1000*1000+1-1>0");
        broken("0-1000*1000*1000-1+1<0");
        broken("[1000*1000*1000+1]*0=0");
    }

    @Says("Beyond 1,000,000,000 either way")
    static void t2_broken_doesNotWrapAround() {
        broken("1000*1000*1000*4<0");
        broken("1000*1000*1000*[1000*1000*1000]=0");
        broken("1000*1000*[1000*1000]*[1000*1000]=0");
        broken("1000*1000*1000+1000*1000*1000>0");
        broken("0-1000*1000*1000-1000*1000*1000<0");
        broken("65*1000*1000+536*1000+66*1000*1000*1000=0");
    }

    @Says("or divided by 0 (/ cut towards 0, % what is left then), a SUM, a TEST is BROKEN")
    static void t2_broken_dividedBy0() {
        broken("1/0=1");
        broken("0/0=0");
        broken("1%0=1");
        broken("0%0=0");
        broken("1/[1-1]=0");
        so("0/1=0");
        so("0%1=0");
    }

    @Says("(/ cut towards 0, % what is left then)")
    static void t2_broken_divisionIsCutTowards0() {
        so("7/2=3");
        so("[0-7]/2=0-3");
        so("7/[0-2]=0-3");
        so("[0-7]/[0-2]=3");
        so("[0-1]/2=0");
        so("7%2=1");
        so("[0-7]%2=0-1");
        so("7%[0-2]=1");
        so("[0-7]%[0-2]=0-1");
        so("[0-8]%3=0-2");
    }

    @Says("(\"or\", \"and\" ask what stands behind only if it can still matter;")
    static void t2_broken_notAskedIfItCantMatter() {
        so("1=1 or 1/0=1");
        notSo("1=0 and 1/0=1");
        so("1=1 or 1=0 or 1/0=1");
        notSo("1=1 and 1=0 and 1/0=1");
        so("1=0 and 1/0=1 or 1=1");
        so("1=1 or 1=1 and 1/0=1");
        so("1=1 or 1/0=1 and 1/0=1");
        so("(1=1 or 1/0=1) and 1=1");
        notSo("(1=0 and 1/0=1) or 1=0");
        so("not (1=0 and 1/0=1)");
        so("1=1 or not 1/0=1");
    }

    @Says("a part that was asked and is BROKEN makes all of it BROKEN)")
    static void t2_broken_whatWasAskedBreaksAll() {
        broken("1/0=1 or 1=1");
        broken("1/0=1 and 1=0");
        broken("1=0 or 1/0=1");
        broken("1=1 and 1/0=1");
        broken("not 1/0=1");
        broken("1=0 or 1/0=1 or 1=1");
        broken("1=1 and 1/0=1 or 1=1");
        broken("(1/0=1 or 1=1) or 1=1");
        broken("1=1/0");
        broken("0*[1/0]=0");
    }

    // ------------------------------------------------------------------ orders

    @Says("ORDERS: CLAUSE: ((\"lend\" | \"repay\") SUM \"to\" SUM \"of\" SUM | \"wait\") [\"times\" TIMES] [\"if\" TEST].")
    static void t2_orders_faults() {
        ordersFault(0, "bars");
        ordersFault(0, "depth 1");
        ordersFault(4, "lend");
        ordersFault(6, "lend 1");
        ordersFault(7, "lend 1 2");
        ordersFault(7, "lend 1 of 2");
        ordersFault(9, "lend 1 to");
        ordersFault(11, "lend 1 to 2");
        ordersFault(12, "lend 1 to 2 to 3");
        ordersFault(14, "lend 1 to 2 of");
        ordersFault(17, "lend 1 to 2 of 3 4");
        ordersFault(5, "wait 1");
        ordersFault(5, "wait to 1");
        ordersFault(12, "wait if 1=1 times 2");
        ordersFault(13, "wait times 2 times 2");
        ordersFault(12, "wait if 1=1 if 1=1");
        ordersFault(5, "lend owner to 1 of 1");
        ordersFault(8, "wait if rooms=1");
        ordersFault(15, "repay 1 to 2 of");
    }

    @Says("(lend: giver, taker, AMOUNT; repay: DEBTOR, CREDITOR, AMOUNT.)")
    static void t2_orders_lendAndRepay() {
        people(4);
        due(2, orders("lend 1+1 to 9/3 of 10*3;lend 0 to 1 of 7"));
        dues(new int[] {3, 2, 30, 0, 1, 0, 7, 0}, debts());
        due(1, orders("repay 3 to 2 of 12"));
        due(18, x.owes(3, 2));
        dues(new int[] {93, 107, 82, 118}, purses());
    }

    @Says("TIMES: a NUMBER 1 .. 20.")
    static void t2_orders_times1To20() {
        ordersFault(11, "wait times 0");
        ordersFault(11, "wait times 00");
        ordersFault(11, "wait times 21");
        ordersFault(11, "wait times 1000");
        ordersFault(11, "wait times day");
        ordersFault(11, "wait times [1]");
        ordersFault(10, "wait times");
        ordersFault(11, "wait times if 1=1");
        due(1, orders("wait times 1"));
        due(20, orders("wait times 20"));
        due(20, orders("wait times 00020"));
        due(41, x.count(13));
    }

    @Says("Words: \"day\" | \"debts\" | \"done\" | \"last\" | \"purse\" P | \"owed\" P Q (P, Q: NUMBERS 0 .. 6).")
    static void t2_orders_peoplesNumbers0To6() {
        ordersRead("wait if purse 0=purse 6");
        ordersRead("wait if owed 0 6=owed 6 0");
        ordersRead("wait if owed 000 006=purse 0006");
        ordersFault(14, "wait if purse 7=1");
        ordersFault(13, "wait if owed 7 0=1");
        ordersFault(15, "wait if owed 0 7=1");
        ordersFault(14, "wait if purse day=1");
        ordersFault(13, "wait if purse=1");
        ordersFault(14, "wait if owed 1=1");
        ordersFault(13, "wait if purse");
        ordersFault(14, "wait if owed 1");
        ordersFault(14, "wait if purse [1]=1");
    }

    @Says("P, Q, TIMES aside, NUMBERS and words count as PARTS.")
    static void t2_orders_peoplesNumbersAndTimesAreNoParts() {
        String parts = "wait times 20 if owed 1 2" + "+owed 1 2".repeat(24) + "=0" + "+0".repeat(23);
        ordersRead(parts + "+purse 1");
        int place = parts.length() + 9;
        ordersFault(place, parts + "+purse 1+owed 1 2");
        ordersFault(place, parts + "+purse 1+1");
        ordersRead("wait times 3;" + parts + "+1;wait times 3");
    }

    @Says("Run CLAUSE by CLAUSE, each as often as TIMES tell (once without);")
    static void t2_orders_clauseByClause() {
        people(2);
        due(6, orders("lend 0 to 1 of 1 times 2;wait;lend 0 to 1 of 2;wait times 2"));
        dues(new int[] {1, 0, 1, 0, 1, 0, 1, 0, 1, 0, 2, 1}, debts());
        due(3, x.count(13));
    }

    @Says("each time its \"if\" is asked (not run, if it is not so or BROKEN), then its SUMS from the left.")
    static void t2_orders_ifIsAskedEachTime() {
        people(2);
        due(3, orders("wait times 20 if day<3"));
        due(3, x.count(13));
        due(2, orders("wait times 20 if done=0 or done=1"));
        due(5, orders("lend 0 to 1 of 2 times 20 if purse 0>90"));
        due(90, x.of(0, 0));
        due(0, orders("lend 9 to 9 of 1/0 if 1=0"));
        due(0, orders("lend 9 to 9 of 1/0 times 20 if 1/0=1"));
        due(NONE, x.stopped());
    }

    @Says("then its SUMS from the left.")
    static void t2_orders_sumsAreAskedEachTime() {
        people(2, 1000);
        due(3, orders("lend 0 to 1 of owed 1 0+1 times 3"));
        dues(new int[] {1, 0, 1, 0, 1, 0, 2, 0, 1, 0, 4, 0}, debts());
        due(2, orders("lend done to 1-done of 10 times 2"));
        due(10, x.owes(0, 1));
        due(17, x.owes(1, 0));
    }

    @Says("debts: how many, done: how many were run in this TEXT")
    static void t2_orders_debtsAndDone() {
        people(2);
        due(2, orders("wait if debts=0 and done=0;wait if debts=0 and done=1;wait if done=1"));
        due(3, orders("lend 0 to 1 of 5;wait if debts=1 and done=1;repay 1 to 0 of 5;wait if debts=1"));
        debtsUpTo(16, 0, 1);
        due(1, orders("wait if debts=16 and done=0"));
    }

    @Says("last: what the latest lend, repay in it told (-1: none)")
    static void t2_orders_last() {
        people(2);
        due(1, orders("wait if last=0-1"));
        due(3, orders("lend 0 to 1 of 7;wait if last=7;wait if last=7"));
        due(1, orders("wait if last=0-1"));
        due(2, orders("repay 1 to 0 of 100;wait if last=7"));
    }

    @Says("purse: of P (-1: no such), owed: what P OWES Q (0: no such).")
    static void t2_orders_purseAndOwedOfNone() {
        so("purse 0=0-1");
        so("purse 6=0-1");
        so("owed 0 1=0");
        people(2);
        x.put(1, 0, 0);
        x.debt(0, 1, 30);
        x.debt(0, 1, 9);
        so("purse 0=100 and purse 1=0 and purse 2=0-1");
        so("owed 0 1=39 and owed 1 0=0 and owed 0 2=0 and owed 6 0=0 and owed 0 0=0");
        people7AreAllAsked();
    }

    private static void people7AreAllAsked() {
        anew();
        for (int p = 0; p < 7; p++) x.person(10 + p, 1, 1);
        for (int p = 0; p < 7; p++) x.debt(p, (p + 3) % 7, 100 + p);
        for (int p = 0; p < 7; p++) {
            due(1, orders("wait if purse " + p + "=" + (10 + p)));
            due(1, orders("wait if owed " + p + " " + (p + 3) % 7 + "=" + (100 + p)));
            due(1, orders("wait if owed " + p + " " + (p + 4) % 7 + "=0"));
        }
    }

    @Says("One that can't be (a BROKEN SUM, as lend(), repay(), await() are REFUSED) ends it: all is as it was ahead of it.")
    static void t2_orders_oneThatCantBeUndoesAll() {
        people(3);
        x.terms(0, 990);
        due(60, x.lend(0, 1, 60));
        due(0, x.await());
        due(10, x.lend(2, 1, 10));
        x.force(law("grows 10"));
        String[] ends = {
            "lend 0 to 1 of 151", "lend 0 to 0 of 1", "lend 0 to 9 of 1", "lend 0-1 to 1 of 1", "lend 0 to 1 of 0",
            "lend 0 to 1 of 10*1000", "lend 1/0 to 1 of 1", "lend 2 to 1/0 of 1", "lend 0 to 1 of 1/0",
            "repay 1 to 1/0 of 1",
            "repay 0 to 1 of 1", "repay 1 to 1 of 1", "repay 1 to 0 of 0", "repay 7 to 0 of 1", "repay 1 to 0 of 1%0",
            "wait times 20"};
        for (String end : ends) {
            refused(-3, orders("wait times 3;repay 1 to 0 of 20;lend 2 to 0 of 90;repay 1 to 2 of 99;" + end));
            due(4, x.stopped());
            dues(new int[] {1, 0, 60, 990, 1, 2, 10, 991}, debts());
            dues(new int[] {40, 170, 90}, purses());
            due(991, x.count(13));
            due(3, x.count(5));
        }
        due(0, x.undo());
        due(4, x.undo());
        due(0, x.undo());
        dues(new int[] {100, 100, 100}, purses());
    }

    @Says("One that can't be (a BROKEN SUM, as lend(), repay(), await() are REFUSED) ends it")
    static void t2_orders_whatStandsBehindIsNotRun() {
        people(2);
        refused(-3, orders("wait;lend 0 to 0 of 1 times 20 if done=1;lend 1/0 to 1 of 1"));
        due(1, x.stopped());
        due(0, x.count(13));
    }
}
