/**
 * A street whose doors open to whom the house owes.
 *
 * All rows are made in the constructor and used again, so that no call makes an object: the calls of a run
 * live in one room.
 */
public final class DebtDoors {
    public static final int NONE = -1;
    public static final int NOTHING = -1000000;

    private static final int BAD_NUMBER = -1;
    private static final int ABSENT = -2;
    private static final int CANNOT_BE = -3;
    private static final int FULL = -5;
    private static final int UNREADABLE = -6;

    private static final int MAX_PEOPLE = 7;
    private static final int MAX_DEBTS = 16;
    private static final int MAX_TOLD = 8;
    private static final int MAX_LAWS = 6;
    private static final int MAX_IMAGES = 2;
    private static final int MAX_UNDO = 16;
    private static final int MAX_TAPE = 400;
    private static final int MAX_MONEY = 9999;
    private static final int MAX_ROOMS = 3;
    private static final int MAX_WARY = 99;
    private static final int MAX_SETTLE = 999;
    private static final int MAX_NEED = 999;
    private static final int MAX_DAY = 999;
    private static final int MAX_MOOD = 9;
    private static final int MAX_GROWTH = 99;
    private static final int MAX_SEED = 1000000;
    private static final int MAX_MONTH = 30;
    private static final int SECRET_STEP = 20;
    private static final int SECRET_STEPS = 10;

    // What undo() tells.
    private static final int LENT = 0;
    private static final int REPAID = 1;
    private static final int FORGIVEN = 2;
    private static final int SOLD = 3;
    private static final int WAITED = 4;
    private static final int CLEARED = 5;

    // The columns of a visit and of a scuff (MORE: what it settles, whether one got in so deep).
    private static final int VISITOR = 0;
    private static final int HOUSE = 1;
    private static final int ROOM = 2;
    private static final int MORE = 3;
    private static final int TOLD_COLUMNS = 4;

    // A program: how many clauses, the columns of each clause, then instructions. The sum of a law's clause
    // stands from FIRST to SECOND, those of an order from FIRST to SECOND, to THIRD, to TEST, a test from TEST
    // to END.
    private static final int MAX_CLAUSES = 12;
    private static final int MAX_TIMES = 20;
    private static final int KIND = 0;
    private static final int TIMES = 1;
    private static final int FIRST = 2;
    private static final int SECOND = 3;
    private static final int THIRD = 4;
    private static final int TEST = 5;
    private static final int END = 6;
    private static final int CLAUSE_COLUMNS = 7;
    private static final int HEADER = 1 + MAX_CLAUSES * CLAUSE_COLUMNS;
    // 50 parts, fewer operators, and fewer than 100 times "not" on a tape of 400 bytes.
    private static final int PROGRAM = HEADER + 300;

    private static final String LAW_KINDS = "depth grows sells bars";
    private static final int DEPTH = 0;
    private static final int GROWS = 1;
    private static final int SELLS = 2;
    private static final int BARS = 3;
    private static final String ORDER_KINDS = "lend repay wait";
    private static final int REPAY = 1;
    private static final int WAIT = 2;

    private static final String LAW_WORDS = "owner visitor owes back rooms wary amount age day mood";
    private static final String ORDER_WORDS = "day debts done last purse owed";
    private static final int PURSE_WORDS = 4;
    private static final int OWED_WORDS = PURSE_WORDS + MAX_PEOPLE;
    private static final int ALL_WORDS = OWED_WORDS + MAX_PEOPLE * MAX_PEOPLE;

    // An instruction: the operation above ARGUMENT_BITS, a number, word or place to jump to below.
    private static final int ARGUMENT_BITS = 12;
    private static final int ARGUMENT_MASK = (1 << ARGUMENT_BITS) - 1;
    private static final int NUMBER = 1;
    private static final int WORD = 2;
    private static final int NOT = 3;
    private static final int AND = 4;
    private static final int OR = 5;
    private static final int ADD = 6;
    private static final int SUBTRACT = 7;
    private static final int MULTIPLY = 8;
    private static final int DIVIDE = 9;
    private static final int REMAIN = 10;
    private static final int LESS = 11;
    private static final int GREATER = 12;
    private static final int EQUAL = 13;

    private static final long MAX_VALUE = 1000000000L;
    // Below all that a sum can tell, below all refusals.
    private static final int UNTOLD = -2000000000;
    private static final int NOT_RUN = -100;

    private final Town town;
    private final Town[] images;
    private final boolean[] imageKept;
    private final Ledger paper;
    private final Undo undo;
    private final Undo undoAhead;
    private final Reader reader;
    private final Rules rules;
    private final Lendings lendings;
    private final Plan plan;
    private final Theft theft;
    private final Clearing clearing;
    private final Month month;
    private final int[] depths;
    private final int[] refused;
    private int status;
    private int blots;
    private int stopped;
    private int done;
    private int last;

    public DebtDoors() {
        town = new Town();
        images = new Town[MAX_IMAGES];
        for (int k = 0; k < MAX_IMAGES; k++) {
            images[k] = new Town();
        }
        imageKept = new boolean[MAX_IMAGES];
        paper = new Ledger();
        undo = new Undo();
        undoAhead = new Undo();
        reader = new Reader();
        rules = new Rules();
        lendings = new Lendings();
        plan = new Plan();
        theft = new Theft();
        clearing = new Clearing();
        month = new Month();
        depths = new int[MAX_PEOPLE * MAX_PEOPLE];
        refused = new int[-UNREADABLE + 1];
        stopped = NONE;
        last = NONE;
    }

    // People, debts, terms

    public int person(int purse, int rooms, int wary) {
        if (!between(purse, 0, MAX_MONEY) || !between(rooms, 1, MAX_ROOMS) || !between(wary, 0, MAX_WARY)) {
            return refuse(BAD_NUMBER);
        }
        if (town.people >= MAX_PEOPLE) {
            return refuse(FULL);
        }
        int number = town.people;
        town.ledger.purse[number] = purse;
        town.rooms[number] = rooms;
        town.wary[number] = wary;
        town.people = number + 1;
        undo.forget();
        return accept(number);
    }

    public int put(int person, int what, int value) {
        if (!canPut(what, value)) {
            return refuse(BAD_NUMBER);
        }
        if (!town.has(person)) {
            return refuse(ABSENT);
        }
        int was = town.trait(person, what);
        if (what == 0) {
            town.ledger.purse[person] = value;
        } else if (what == 1) {
            town.rooms[person] = value;
        } else {
            town.wary[person] = value;
        }
        undo.forget();
        return accept(was);
    }

    private static boolean canPut(int what, int value) {
        switch (what) {
            case 0: return between(value, 0, MAX_MONEY);
            case 1: return between(value, 1, MAX_ROOMS);
            case 2: return between(value, 0, MAX_WARY);
            default: return false;
        }
    }

    public int of(int person, int what) {
        return town.has(person) ? town.trait(person, what) : NONE;
    }

    public int debt(int debtor, int creditor, int amount) {
        int refusal = debtRefusal(debtor, creditor, amount);
        if (refusal < 0) {
            return refuse(refusal);
        }
        town.ledger.add(debtor, creditor, amount);
        undo.forget();
        return accept(town.ledger.debts - 1);
    }

    private int debtRefusal(int debtor, int creditor, int amount) {
        if (debtor == creditor || !between(amount, 1, MAX_MONEY)) {
            return BAD_NUMBER;
        }
        if (!town.has(debtor) || !town.has(creditor)) {
            return ABSENT;
        }
        return town.ledger.debts < MAX_DEBTS ? 0 : FULL;
    }

    public int at(int debt, int what) {
        Ledger ledger = town.ledger;
        if (!ledger.has(debt)) {
            return NONE;
        }
        switch (what) {
            case 0: return ledger.debtor[debt];
            case 1: return ledger.creditor[debt];
            case 2: return ledger.amount[debt];
            case 3: return ledger.since[debt];
            case 4: return rules.ofDebt(town, debt, SELLS);
            case 5: return rules.ofDebt(town, debt, GROWS);
            default: return NONE;
        }
    }

    public int owes(int debtor, int creditor) {
        return town.hasPair(debtor, creditor) ? town.ledger.owed(debtor, creditor) : NONE;
    }

    public int terms(int what, int value) {
        int was;
        if (what == 0 && between(value, 0, MAX_DAY)) {
            was = town.ledger.day;
            town.ledger.day = value;
        } else if (what == 1 && between(value, 0, MAX_MOOD)) {
            was = town.mood;
            town.mood = value;
        } else {
            return refuse(BAD_NUMBER);
        }
        undo.forget();
        return accept(was);
    }

    // The tape

    public int feed(int a, int b, int c, int d, int e) {
        if (reader.length + 20 > MAX_TAPE) {
            return NONE;
        }
        reader.append(a);
        reader.append(b);
        reader.append(c);
        reader.append(d);
        reader.append(e);
        return reader.length;
    }

    public int end(int n) {
        if (n < 0 || n > reader.length) {
            return NONE;
        }
        reader.length = n;
        return n;
    }

    public int row() {
        if (reader.length == 0) {
            return refuse(UNREADABLE);
        }
        int came = 0;
        int blotted = 0;
        for (int at = 0; at < reader.length; at += 4) {
            if (rowDebt(at)) {
                came++;
            } else {
                blotted++;
            }
        }
        reader.length = 0;
        blots = blotted;
        undo.forget();
        return accept(came);
    }

    private boolean rowDebt(int at) {
        if (at < 0 || at + 3 >= reader.length) {
            return false;
        }
        int debtor = reader.tape[at];
        int creditor = reader.tape[at + 1];
        int amount = reader.tape[at + 2] * 256 + reader.tape[at + 3];
        if (debtRefusal(debtor, creditor, amount) < 0) {
            return false;
        }
        town.ledger.add(debtor, creditor, amount);
        return true;
    }

    public int blots() {
        return blots;
    }

    // Laws and orders

    public int law() {
        if (town.laws >= MAX_LAWS) {
            reader.length = 0;
            return refuse(FULL);
        }
        boolean read = reader.read(false);
        reader.length = 0;
        if (!read) {
            return refuse(UNREADABLE);
        }
        int number = town.laws;
        System.arraycopy(reader.program, 0, town.law[number], 0, PROGRAM);
        town.laws = number + 1;
        return accept(number);
    }

    public int orders() {
        stopped = NONE;
        boolean read = reader.read(true);
        reader.length = 0;
        if (!read) {
            return refuse(UNREADABLE);
        }
        paper.copyFrom(town.ledger);
        undoAhead.copyFrom(undo);
        int refusal = runOrders(reader.program);
        if (refusal < 0) {
            town.ledger.copyFrom(paper);
            undo.copyFrom(undoAhead);
            return refuse(refusal == FULL ? FULL : CANNOT_BE);
        }
        return accept(done);
    }

    private int runOrders(int[] program) {
        done = 0;
        last = NONE;
        int clauses = program[0];
        for (int clause = 0; clause < clauses; clause++) {
            int times = column(program, clause, TIMES);
            for (int i = 0; i < times; i++) {
                int told = runClause(program, clause);
                if (told == NOT_RUN) {
                    continue;
                }
                if (told < 0) {
                    stopped = clause;
                    return told;
                }
                done++;
                if (column(program, clause, KIND) != WAIT) {
                    last = told;
                }
            }
        }
        return 0;
    }

    private int runClause(int[] program, int clause) {
        Machine machine = rules.machine;
        fillOrderWords(machine.words);
        int test = column(program, clause, TEST);
        int end = column(program, clause, END);
        if (test < end && (machine.value(program, test, end) == 0 || machine.broken)) {
            return NOT_RUN;
        }
        undo.hold(town.ledger);
        int kind = column(program, clause, KIND);
        int told = kind == WAIT ? nextDay(town, rules) : runSums(program, clause, kind);
        if (told >= 0) {
            undo.keep(kind == WAIT ? WAITED : kind == REPAY ? REPAID : LENT);
        }
        return told;
    }

    private int runSums(int[] program, int clause, int kind) {
        Machine machine = rules.machine;
        int second = column(program, clause, SECOND);
        int third = column(program, clause, THIRD);
        int from = machine.value(program, column(program, clause, FIRST), second);
        boolean broken = machine.broken;
        int to = machine.value(program, second, third);
        broken |= machine.broken;
        int amount = machine.value(program, third, column(program, clause, TEST));
        broken |= machine.broken;
        if (broken) {
            return CANNOT_BE;
        }
        return kind == REPAY ? payBack(town, from, to, amount) : lendOut(town, from, to, amount);
    }

    private void fillOrderWords(int[] words) {
        Ledger ledger = town.ledger;
        words[0] = ledger.day;
        words[1] = ledger.debts;
        words[2] = done;
        words[3] = last;
        for (int p = 0; p < MAX_PEOPLE; p++) {
            words[PURSE_WORDS + p] = p < town.people ? ledger.purse[p] : NONE;
        }
        for (int i = OWED_WORDS; i < ALL_WORDS; i++) {
            words[i] = 0;
        }
        for (int d = 0; d < ledger.debts; d++) {
            words[OWED_WORDS + ledger.debtor[d] * MAX_PEOPLE + ledger.creditor[d]] += ledger.amount[d];
        }
    }

    public int fault() {
        return reader.fault;
    }

    public int stopped() {
        return stopped;
    }

    public int force(int law) {
        if (law != NONE && !between(law, 0, town.laws - 1)) {
            return refuse(ABSENT);
        }
        int was = town.force;
        town.force = law;
        return accept(was);
    }

    // Doors

    public int deep(int owner, int visitor) {
        return town.hasPair(owner, visitor) ? rules.depthNow(town, owner, visitor) : NONE;
    }

    public int doors(int visitor) {
        return town.has(visitor) ? openDoors(visitor) : NONE;
    }

    private int openDoors(int visitor) {
        int bits = 0;
        for (int house = 0; house < town.people; house++) {
            if (house != visitor && rules.depthNow(town, house, visitor) > 0) {
                bits |= 1 << house;
            }
        }
        return bits;
    }

    // Deeds that can be undone

    public int lend(int giver, int taker, int amount) {
        undo.hold(town.ledger);
        return settled(LENT, lendOut(town, giver, taker, amount));
    }

    public int repay(int debtor, int creditor, int amount) {
        undo.hold(town.ledger);
        return settled(REPAID, payBack(town, debtor, creditor, amount));
    }

    public int forgive(int debt) {
        Ledger ledger = town.ledger;
        if (!ledger.has(debt)) {
            return refuse(ABSENT);
        }
        undo.hold(ledger);
        int amount = ledger.amount[debt];
        ledger.amount[debt] = 0;
        ledger.dropPaid();
        return settled(FORGIVEN, amount);
    }

    public int sell(int debt, int buyer) {
        Ledger ledger = town.ledger;
        if (!ledger.has(debt) || !town.has(buyer)) {
            return refuse(ABSENT);
        }
        int seller = ledger.creditor[debt];
        int price = rules.ofDebt(town, debt, SELLS);
        if (buyer == seller || buyer == ledger.debtor[debt] || !ledger.canPay(buyer, seller, price)) {
            return refuse(CANNOT_BE);
        }
        undo.hold(ledger);
        ledger.pay(buyer, seller, price);
        ledger.creditor[debt] = buyer;
        return settled(SOLD, price);
    }

    public int await() {
        undo.hold(town.ledger);
        return settled(WAITED, nextDay(town, rules));
    }

    public int clear() {
        clearing.seek(town);
        if (clearing.size == 0) {
            return refuse(CANNOT_BE);
        }
        undo.hold(town.ledger);
        int least = clearing.least(town.ledger);
        clearing.lessenAll(town.ledger, least);
        return settled(CLEARED, least);
    }

    private int settled(int deed, int answer) {
        if (answer < 0) {
            return refuse(answer);
        }
        undo.keep(deed);
        return accept(answer);
    }

    public int undo() {
        if (undo.size == 0) {
            return refuse(CANNOT_BE);
        }
        return accept(undo.takeBack(town.ledger));
    }

    private static int lendOut(Town town, int giver, int taker, int amount) {
        if (!between(amount, 1, MAX_MONEY)) {
            return BAD_NUMBER;
        }
        if (!town.has(giver) || !town.has(taker)) {
            return ABSENT;
        }
        Ledger ledger = town.ledger;
        if (giver == taker || !ledger.canPay(giver, taker, amount)) {
            return CANNOT_BE;
        }
        if (ledger.debts >= MAX_DEBTS) {
            return FULL;
        }
        ledger.pay(giver, taker, amount);
        ledger.add(taker, giver, amount);
        return amount;
    }

    private static int payBack(Town town, int debtor, int creditor, int amount) {
        if (!between(amount, 1, MAX_MONEY)) {
            return BAD_NUMBER;
        }
        if (!town.has(debtor) || !town.has(creditor)) {
            return ABSENT;
        }
        Ledger ledger = town.ledger;
        int can = Math.min(ledger.purse[debtor], MAX_MONEY - ledger.purse[creditor]);
        int much = Math.min(Math.min(amount, can), ledger.owed(debtor, creditor));
        if (debtor == creditor || much <= 0) {
            return CANNOT_BE;
        }
        ledger.pay(debtor, creditor, much);
        ledger.lessen(debtor, creditor, much);
        return much;
    }

    private static int nextDay(Town town, Rules rules) {
        Ledger ledger = town.ledger;
        if (ledger.day >= MAX_DAY) {
            return CANNOT_BE;
        }
        ledger.day++;
        int grown = 0;
        for (int d = 0; d < ledger.debts; d++) {
            // Asked here, not ahead of all: what has grown already is owed when the next one is asked.
            int more = ledger.amount[d] * rules.ofDebt(town, d, GROWS) / 100;
            more = Math.min(more, MAX_MONEY - ledger.amount[d]);
            ledger.amount[d] += more;
            grown += more;
        }
        return grown;
    }

    // Needs, visits, lendings

    public int need(int visitor, int house, int room) {
        if (!town.hasPair(house, visitor) || !between(room, 1, MAX_ROOMS)) {
            return NONE;
        }
        return rules.needOf(town, visitor, house, room);
    }

    public int visit(int visitor, int house, int room, int settle) {
        if (visitor == house || !between(room, 1, MAX_ROOMS) || !between(settle, 0, MAX_SETTLE)) {
            return refuse(BAD_NUMBER);
        }
        if (!town.has(visitor) || !town.has(house)) {
            return refuse(ABSENT);
        }
        if (town.visits >= MAX_TOLD) {
            return refuse(FULL);
        }
        tell(town.visit[town.visits], visitor, house, room, settle);
        town.visits++;
        return accept(town.visits);
    }

    private static void tell(int[] columns, int visitor, int house, int room, int more) {
        columns[VISITOR] = visitor;
        columns[HOUSE] = house;
        columns[ROOM] = room;
        columns[MORE] = more;
    }

    public int cancel() {
        int were = town.visits;
        town.visits = 0;
        return were;
    }

    public int lendings(int what) {
        if (what < 0 || !lendings.gather(town, rules)) {
            return NONE;
        }
        if (what == 0) {
            return lendings.size;
        }
        if (what == 1) {
            return lendings.total;
        }
        int rows = lendings.countRows(town.ledger);
        if (what == 2) {
            return rows;
        }
        int i = what - 3;
        if (rows == 0 || i >= lendings.size) {
            return NONE;
        }
        return lendings.inFirstRow(town.ledger, i);
    }

    public int plan(int i) {
        int rows = plan.countRows(town, rules);
        if (i == NONE) {
            return rows;
        }
        return rows > 0 && between(i, 0, town.visits - 1) ? plan.first[i] : NONE;
    }

    // Thieves, shutting, parties

    public int thief(int thief, int house, int room, int what) {
        if (!town.hasPair(house, thief) || !between(room, 1, MAX_ROOMS) || !between(what, 0, 1)) {
            return NONE;
        }
        if (!theft.seek(town, rules, thief, house, room)) {
            return NONE;
        }
        return what == 0 ? theft.bestPrice : theft.bestDebts;
    }

    public int shut(int owner, int visitor, int room) {
        if (!town.hasPair(owner, visitor) || !between(room, 1, MAX_ROOMS)) {
            return NONE;
        }
        return rules.shutBy(town, owner, visitor, room);
    }

    public int ban(int person) {
        if (!town.has(person)) {
            return NONE;
        }
        int together = 0;
        for (int house = 0; house < town.people; house++) {
            if (house == person) {
                continue;
            }
            int amount = rules.shutBy(town, house, person, 1);
            if (amount == NONE) {
                return NONE;
            }
            together += amount;
        }
        return together;
    }

    public int party(int what) {
        if (!between(what, 0, 1)) {
            return NONE;
        }
        int best = NONE;
        int least = NONE;
        for (int house = 0; house < town.people; house++) {
            int needs = partyNeeds(house);
            if (needs != NONE && (best == NONE || needs < least)) {
                best = house;
                least = needs;
            }
        }
        return what == 0 ? best : least;
    }

    private int partyNeeds(int house) {
        int together = 0;
        for (int visitor = 0; visitor < town.people; visitor++) {
            if (visitor == house) {
                continue;
            }
            int amount = rules.needOf(town, visitor, house, 1);
            if (amount == NONE) {
                return NONE;
            }
            together += amount;
        }
        return together;
    }

    // Rings, balances

    public int ring(int i) {
        clearing.seek(town);
        if (clearing.size == 0) {
            return NONE;
        }
        if (i == NONE) {
            return clearing.size;
        }
        return between(i, 0, clearing.size - 1) ? clearing.ring[i] : NONE;
    }

    public int cleared(int what) {
        clearing.seek(town);
        if (clearing.size == 0 || !between(what, 0, 1)) {
            return NONE;
        }
        int least = clearing.least(town.ledger);
        return what == 0 ? least : shutByClearing(least);
    }

    private int shutByClearing(int least) {
        fillDepths();
        paper.copyFrom(town.ledger);
        clearing.lessenAll(town.ledger, least);
        int less = 0;
        for (int house = 0; house < town.people; house++) {
            for (int visitor = 0; visitor < town.people; visitor++) {
                if (house != visitor
                        && rules.depthNow(town, house, visitor) < depths[house * MAX_PEOPLE + visitor]) {
                    less++;
                }
            }
        }
        town.ledger.copyFrom(paper);
        return less;
    }

    private void fillDepths() {
        for (int house = 0; house < town.people; house++) {
            for (int visitor = 0; visitor < town.people; visitor++) {
                if (house != visitor) {
                    depths[house * MAX_PEOPLE + visitor] = rules.depthNow(town, house, visitor);
                }
            }
        }
    }

    public int balance(int person) {
        return town.has(person) ? town.ledger.balanceOf(person) : NOTHING;
    }

    public int payments() {
        return clearing.fewestPayments(town);
    }

    // Scuffs

    public int scuff(int visitor, int house, int room, int is) {
        if (visitor == house || !between(room, 1, MAX_ROOMS) || !between(is, 0, 1)) {
            return refuse(BAD_NUMBER);
        }
        if (!town.has(visitor) || !town.has(house)) {
            return refuse(ABSENT);
        }
        if (town.scuffs >= MAX_TOLD) {
            return refuse(FULL);
        }
        tell(town.scuff[town.scuffs], visitor, house, room, is);
        town.scuffs++;
        return accept(town.scuffs);
    }

    public int sweep() {
        int were = town.scuffs;
        town.scuffs = 0;
        return were;
    }

    public int secret(int i) {
        if (i < NONE) {
            return NONE;
        }
        int found = 0;
        for (int debtor = 0; debtor < town.people; debtor++) {
            for (int creditor = 0; creditor < town.people; creditor++) {
                if (debtor == creditor) {
                    continue;
                }
                for (int step = 0; step < SECRET_STEPS; step++) {
                    if (!scuffsAreSo(debtor, creditor, (step + 1) * SECRET_STEP)) {
                        continue;
                    }
                    if (found == i) {
                        return debtor * 70 + creditor * 10 + step;
                    }
                    found++;
                }
            }
        }
        return i == NONE ? found : NONE;
    }

    public int denied() {
        Ledger ledger = town.ledger;
        int bits = 0;
        for (int d = 0; d < ledger.debts; d++) {
            if (scuffsAreSo(ledger.debtor[d], ledger.creditor[d], -ledger.amount[d])) {
                bits |= 1 << d;
            }
        }
        return bits;
    }

    /** Whether all scuffs are so, if the debtor owed the creditor as much more. */
    private boolean scuffsAreSo(int debtor, int creditor, int more) {
        Ledger ledger = town.ledger;
        for (int i = 0; i < town.scuffs; i++) {
            int[] scuff = town.scuff[i];
            int house = scuff[HOUSE];
            int visitor = scuff[VISITOR];
            int owed = ledger.owed(house, visitor);
            int back = ledger.owed(visitor, house);
            if (house == debtor && visitor == creditor) {
                owed += more;
            } else if (house == creditor && visitor == debtor) {
                back += more;
            }
            boolean in = rules.depth(town, house, visitor, owed, back) >= scuff[ROOM];
            if (in != (scuff[MORE] == 1)) {
                return false;
            }
        }
        return true;
    }

    // Months, images

    public int month(int seed, int n) {
        if (!between(seed, 0, MAX_SEED) || !between(n, 1, MAX_MONTH)) {
            return refuse(BAD_NUMBER);
        }
        if (town.people == 0) {
            return refuse(CANNOT_BE);
        }
        paper.copyFrom(town.ledger);
        int lent = month.pass(town, rules, seed, n);
        for (int p = 0; p < town.people; p++) {
            month.keep(p, town.ledger.purse[p], town.ledger.balanceOf(p), Integer.bitCount(openDoors(p)));
        }
        month.people = town.people;
        town.ledger.copyFrom(paper);
        return accept(lent);
    }

    public int drawn(int person, int what) {
        return month.told(person, what);
    }

    public int image(int k) {
        if (!between(k, 0, MAX_IMAGES - 1)) {
            return refuse(BAD_NUMBER);
        }
        images[k].copyFrom(town);
        imageKept[k] = true;
        return accept(0);
    }

    public int back(int k) {
        if (!between(k, 0, MAX_IMAGES - 1)) {
            return refuse(BAD_NUMBER);
        }
        if (!imageKept[k]) {
            return refuse(ABSENT);
        }
        town.copyFrom(images[k]);
        undo.forget();
        return accept(0);
    }

    // Counts

    public int count(int what) {
        switch (what) {
            case 0: return town.people;
            case 1: return town.ledger.debts;
            case 2: return town.visits;
            case 3: return town.scuffs;
            case 4: return town.laws;
            case 5: return undo.size;
            case 6: return reader.length;
            case 7: return refused[-BAD_NUMBER];
            case 8: return refused[-ABSENT];
            case 9: return refused[-CANNOT_BE];
            case 10: return refused[-FULL];
            case 11: return refused[-UNREADABLE];
            case 12: return town.force;
            case 13: return town.ledger.day;
            case 14: return town.mood;
            default: return NONE;
        }
    }

    public int status() {
        return status;
    }

    private int refuse(int code) {
        if (between(-code, 0, -UNREADABLE)) {
            refused[-code]++;
        }
        status = code;
        return code;
    }

    private int accept(int answer) {
        status = 0;
        return answer;
    }

    private static boolean between(int value, int least, int most) {
        return value >= least && value <= most;
    }

    private static int nearest(int value, int least, int most) {
        return Math.max(least, Math.min(most, value));
    }

    private static int column(int[] program, int clause, int which) {
        int place = columnPlace(clause, which);
        return between(place, 0, program.length - 1) ? program[place] : 0;
    }

    private static int columnPlace(int clause, int which) {
        return 1 + clause * CLAUSE_COLUMNS + which;
    }

    /** What undo() puts back: purses, debts, the day. */
    private static final class Ledger {
        final int[] purse = new int[MAX_PEOPLE];
        final int[] debtor = new int[MAX_DEBTS];
        final int[] creditor = new int[MAX_DEBTS];
        final int[] amount = new int[MAX_DEBTS];
        final int[] since = new int[MAX_DEBTS];
        int debts;
        int day;

        void copyFrom(Ledger other) {
            System.arraycopy(other.purse, 0, purse, 0, MAX_PEOPLE);
            System.arraycopy(other.debtor, 0, debtor, 0, MAX_DEBTS);
            System.arraycopy(other.creditor, 0, creditor, 0, MAX_DEBTS);
            System.arraycopy(other.amount, 0, amount, 0, MAX_DEBTS);
            System.arraycopy(other.since, 0, since, 0, MAX_DEBTS);
            debts = other.debts;
            day = other.day;
        }

        boolean has(int debt) {
            return debt >= 0 && debt < debts;
        }

        int owed(int from, int to) {
            int sum = 0;
            for (int d = 0; d < debts; d++) {
                if (debtor[d] == from && creditor[d] == to) {
                    sum += amount[d];
                }
            }
            return sum;
        }

        int balanceOf(int person) {
            int sum = 0;
            for (int d = 0; d < debts; d++) {
                if (creditor[d] == person) {
                    sum += amount[d];
                } else if (debtor[d] == person) {
                    sum -= amount[d];
                }
            }
            return sum;
        }

        void add(int from, int to, int much) {
            if (debts >= MAX_DEBTS) {
                return;
            }
            debtor[debts] = from;
            creditor[debts] = to;
            amount[debts] = much;
            since[debts] = day;
            debts++;
        }

        void lessen(int from, int to, int much) {
            int left = much;
            for (int d = 0; d < debts; d++) {
                if (debtor[d] == from && creditor[d] == to) {
                    int cut = Math.min(left, amount[d]);
                    amount[d] -= cut;
                    left -= cut;
                }
            }
            dropPaid();
        }

        void dropPaid() {
            int kept = 0;
            for (int d = 0; d < debts; d++) {
                if (amount[d] > 0) {
                    debtor[kept] = debtor[d];
                    creditor[kept] = creditor[d];
                    amount[kept] = amount[d];
                    since[kept] = since[d];
                    kept++;
                }
            }
            debts = kept;
        }

        boolean canPay(int from, int to, int much) {
            return purse[from] >= much && purse[to] + much <= MAX_MONEY;
        }

        void pay(int from, int to, int much) {
            purse[from] -= much;
            purse[to] += much;
        }
    }

    /** All that an image keeps. */
    private static final class Town {
        final Ledger ledger = new Ledger();
        final int[] rooms = new int[MAX_PEOPLE];
        final int[] wary = new int[MAX_PEOPLE];
        final int[][] visit = new int[MAX_TOLD][TOLD_COLUMNS];
        final int[][] scuff = new int[MAX_TOLD][TOLD_COLUMNS];
        final int[][] law = new int[MAX_LAWS][PROGRAM];
        int people;
        int mood;
        int visits;
        int scuffs;
        int laws;
        int force = NONE;

        void copyFrom(Town other) {
            ledger.copyFrom(other.ledger);
            System.arraycopy(other.rooms, 0, rooms, 0, MAX_PEOPLE);
            System.arraycopy(other.wary, 0, wary, 0, MAX_PEOPLE);
            for (int i = 0; i < MAX_TOLD; i++) {
                System.arraycopy(other.visit[i], 0, visit[i], 0, TOLD_COLUMNS);
                System.arraycopy(other.scuff[i], 0, scuff[i], 0, TOLD_COLUMNS);
            }
            for (int i = 0; i < MAX_LAWS; i++) {
                System.arraycopy(other.law[i], 0, law[i], 0, PROGRAM);
            }
            people = other.people;
            mood = other.mood;
            visits = other.visits;
            scuffs = other.scuffs;
            laws = other.laws;
            force = other.force;
        }

        boolean has(int person) {
            return person >= 0 && person < people;
        }

        boolean hasPair(int one, int another) {
            return one != another && has(one) && has(another);
        }

        int trait(int person, int what) {
            switch (what) {
                case 0: return ledger.purse[person];
                case 1: return rooms[person];
                case 2: return wary[person];
                default: return NONE;
            }
        }
    }

    /** The ledgers ahead of the latest deeds, and one held until it is known whether its deed can be. */
    private static final class Undo {
        private static final int SLOTS = MAX_UNDO + 1;
        private final Ledger[] ahead = new Ledger[SLOTS];
        private final int[] deed = new int[SLOTS];
        private int first;
        int size;

        Undo() {
            for (int i = 0; i < SLOTS; i++) {
                ahead[i] = new Ledger();
            }
        }

        private int slot(int i) {
            return (first + i) % SLOTS;
        }

        void copyFrom(Undo other) {
            for (int i = 0; i < SLOTS; i++) {
                ahead[i].copyFrom(other.ahead[i]);
                deed[i] = other.deed[i];
            }
            first = other.first;
            size = other.size;
        }

        void hold(Ledger ledger) {
            ahead[slot(size)].copyFrom(ledger);
        }

        void keep(int what) {
            deed[slot(size)] = what;
            if (size < MAX_UNDO) {
                size++;
            } else {
                first = slot(1);
            }
        }

        int takeBack(Ledger ledger) {
            if (size == 0) {
                return NONE;
            }
            size--;
            ledger.copyFrom(ahead[slot(size)]);
            return deed[slot(size)];
        }

        void forget() {
            size = 0;
        }
    }

    /** Reads the tape as a law or as orders into a program. */
    private static final class Reader {
        private static final int MAX_PARTS = 50;
        private static final int MAX_BRACKETS = 8;
        private static final int MAX_NUMBER = 1000;
        private static final int AT_END = 0;
        private static final int LETTERS = 1;
        private static final int DIGITS = 2;
        private static final int SIGN = 3;

        final int[] tape = new int[MAX_TAPE];
        final int[] program = new int[PROGRAM];
        int length;
        int fault = NONE;
        private boolean forOrders;
        private int written;
        private int parts;
        private int token;
        private int from;
        private int to;
        private int number;

        void append(int four) {
            for (int shift = 24; shift >= 0; shift -= 8) {
                if (length < MAX_TAPE) {
                    tape[length] = (four >>> shift) & 255;
                    length++;
                }
            }
        }

        boolean read(boolean asOrders) {
            forOrders = asOrders;
            fault = NONE;
            written = HEADER;
            parts = 0;
            to = 0;
            next();
            for (int clause = 0; clause < MAX_CLAUSES; clause++) {
                if (!(forOrders ? orderClause(clause) : lawClause(clause))) {
                    return false;
                }
                program[0] = clause + 1;
                if (!isSign(';')) {
                    return token == AT_END || fail();
                }
                next();
            }
            return fail();
        }

        private boolean fail() {
            fault = from;
            return false;
        }

        private void next() {
            int at = to;
            while (at < length && tape[at] == ' ') {
                at++;
            }
            from = at;
            if (at >= length) {
                token = AT_END;
            } else if (tape[at] >= 'a' && tape[at] <= 'z') {
                token = LETTERS;
                while (at < length && tape[at] >= 'a' && tape[at] <= 'z') {
                    at++;
                }
            } else if (tape[at] >= '0' && tape[at] <= '9') {
                token = DIGITS;
                number = 0;
                while (at < length && tape[at] >= '0' && tape[at] <= '9') {
                    // Kept just above the most that can be, so that no row of digits runs over.
                    number = Math.min(MAX_NUMBER + 1, number * 10 + tape[at] - '0');
                    at++;
                }
            } else {
                token = SIGN;
                at++;
            }
            to = at;
        }

        private boolean isSign(int sign) {
            return token == SIGN && tape[from] == sign;
        }

        private boolean isWord(String word) {
            return wordIn(word) == 0;
        }

        /** Which of the words, told with blanks between, the token is; NONE. */
        private int wordIn(String words) {
            if (token != LETTERS) {
                return NONE;
            }
            int which = 0;
            int place = from;
            boolean alike = true;
            for (int i = 0; i < words.length(); i++) {
                if (words.charAt(i) == ' ') {
                    if (alike && place == to) {
                        return which;
                    }
                    which++;
                    place = from;
                    alike = true;
                } else {
                    alike = alike && place < to && tape[place] == words.charAt(i);
                    place++;
                }
            }
            return alike && place == to ? which : NONE;
        }

        private boolean take(String word) {
            if (!isWord(word)) {
                return fail();
            }
            next();
            return true;
        }

        private boolean takeSign(int sign) {
            if (!isSign(sign)) {
                return fail();
            }
            next();
            return true;
        }

        private void write(int operation, int argument) {
            if (written < PROGRAM) {
                program[written] = operation << ARGUMENT_BITS | argument;
                written++;
            }
        }

        private void mark(int clause, int which, int value) {
            int place = columnPlace(clause, which);
            if (between(place, 0, PROGRAM - 1)) {
                program[place] = value;
            }
        }

        private boolean lawClause(int clause) {
            int kind = wordIn(LAW_KINDS);
            if (kind == NONE) {
                return fail();
            }
            next();
            mark(clause, KIND, kind);
            mark(clause, FIRST, written);
            if (kind != BARS && !sum(0)) {
                return false;
            }
            mark(clause, SECOND, written);
            return maybeTest(clause);
        }

        private boolean orderClause(int clause) {
            int kind = wordIn(ORDER_KINDS);
            if (kind == NONE) {
                return fail();
            }
            next();
            mark(clause, KIND, kind);
            mark(clause, TIMES, 1);
            return (kind == WAIT || threeSums(clause)) && maybeTimes(clause) && maybeTest(clause);
        }

        private boolean threeSums(int clause) {
            mark(clause, FIRST, written);
            if (!sum(0) || !take("to")) {
                return false;
            }
            mark(clause, SECOND, written);
            if (!sum(0) || !take("of")) {
                return false;
            }
            mark(clause, THIRD, written);
            return sum(0);
        }

        private boolean maybeTimes(int clause) {
            if (!isWord("times")) {
                return true;
            }
            next();
            if (token != DIGITS || number < 1 || number > MAX_TIMES) {
                return fail();
            }
            mark(clause, TIMES, number);
            next();
            return true;
        }

        private boolean maybeTest(int clause) {
            mark(clause, TEST, written);
            if (isWord("if")) {
                next();
                if (!test(0)) {
                    return false;
                }
            }
            mark(clause, END, written);
            return true;
        }

        private boolean test(int brackets) {
            if (!both(brackets)) {
                return false;
            }
            for (int i = 0; i < MAX_TAPE && isWord("or"); i++) {
                next();
                int jump = written;
                write(OR, 0);
                if (!both(brackets)) {
                    return false;
                }
                jumpHere(jump, OR);
            }
            return true;
        }

        private boolean both(int brackets) {
            if (!plain(brackets)) {
                return false;
            }
            for (int i = 0; i < MAX_TAPE && isWord("and"); i++) {
                next();
                int jump = written;
                write(AND, 0);
                if (!plain(brackets)) {
                    return false;
                }
                jumpHere(jump, AND);
            }
            return true;
        }

        private void jumpHere(int jump, int operation) {
            if (jump < PROGRAM) {
                program[jump] = operation << ARGUMENT_BITS | written;
            }
        }

        private boolean plain(int brackets) {
            // A loop, not a call within a call: a tape can hold a hundred "not"s in a row.
            boolean turned = false;
            for (int i = 0; i < MAX_TAPE && isWord("not"); i++) {
                turned = !turned;
                next();
            }
            if (isSign('(')) {
                if (brackets >= MAX_BRACKETS) {
                    return fail();
                }
                next();
                if (!test(brackets + 1) || !takeSign(')')) {
                    return false;
                }
            } else {
                if (!sum(brackets)) {
                    return false;
                }
                int operation = isSign('<') ? LESS : isSign('>') ? GREATER : EQUAL;
                if (operation == EQUAL && !isSign('=')) {
                    return fail();
                }
                next();
                if (!sum(brackets)) {
                    return false;
                }
                write(operation, 0);
            }
            if (turned) {
                write(NOT, 0);
            }
            return true;
        }

        private boolean sum(int brackets) {
            if (!term(brackets)) {
                return false;
            }
            for (int i = 0; i < MAX_TAPE && (isSign('+') || isSign('-')); i++) {
                int operation = isSign('+') ? ADD : SUBTRACT;
                next();
                if (!term(brackets)) {
                    return false;
                }
                write(operation, 0);
            }
            return true;
        }

        private boolean term(int brackets) {
            if (!part(brackets)) {
                return false;
            }
            for (int i = 0; i < MAX_TAPE && (isSign('*') || isSign('/') || isSign('%')); i++) {
                int operation = isSign('*') ? MULTIPLY : isSign('/') ? DIVIDE : REMAIN;
                next();
                if (!part(brackets)) {
                    return false;
                }
                write(operation, 0);
            }
            return true;
        }

        private boolean part(int brackets) {
            if (isSign('[')) {
                if (brackets >= MAX_BRACKETS) {
                    return fail();
                }
                next();
                return sum(brackets + 1) && takeSign(']');
            }
            if (parts >= MAX_PARTS) {
                return fail();
            }
            parts++;
            if (token == DIGITS) {
                if (number > MAX_NUMBER) {
                    return fail();
                }
                write(NUMBER, number);
                next();
                return true;
            }
            return forOrders ? orderWord() : lawWord();
        }

        private boolean lawWord() {
            int which = wordIn(LAW_WORDS);
            if (which == NONE) {
                return fail();
            }
            write(WORD, which);
            next();
            return true;
        }

        private boolean orderWord() {
            int which = wordIn(ORDER_WORDS);
            if (which == NONE) {
                return fail();
            }
            next();
            if (which < PURSE_WORDS) {
                write(WORD, which);
                return true;
            }
            int people = which == PURSE_WORDS ? 1 : 2;
            int place = 0;
            for (int i = 0; i < people; i++) {
                if (token != DIGITS || number >= MAX_PEOPLE) {
                    return fail();
                }
                place = place * MAX_PEOPLE + number;
                next();
            }
            write(WORD, (which == PURSE_WORDS ? PURSE_WORDS : OWED_WORDS) + place);
            return true;
        }
    }

    /** Runs the instructions of sums and tests of both languages over a row of words. */
    private static final class Machine {
        // A sum keeps two values waiting at most in each of its brackets, a comparison one.
        private static final int MAX_STACK = 64;
        private static final long BEYOND = MAX_VALUE + 1;

        final int[] words = new int[ALL_WORDS];
        private final int[] stack = new int[MAX_STACK];
        boolean broken;

        /** What the instructions tell; nothing, if it is broken then. */
        int value(int[] program, int from, int to) {
            broken = false;
            int top = -1;
            for (int at = from; at >= 0 && at < to && at < program.length; at++) {
                int operation = program[at] >> ARGUMENT_BITS;
                int argument = program[at] & ARGUMENT_MASK;
                if (operation == NUMBER || operation == WORD) {
                    if (top + 1 >= MAX_STACK || operation == WORD && argument >= ALL_WORDS) {
                        return breakOff();
                    }
                    top++;
                    stack[top] = operation == NUMBER ? argument : words[argument];
                } else if (top < 0) {
                    return breakOff();
                } else if (operation == NOT) {
                    stack[top] = 1 - stack[top];
                } else if (operation == AND || operation == OR) {
                    if ((stack[top] != 0) == (operation == OR)) {
                        // What stands behind can't matter any more; jumps go ahead alone.
                        at = Math.max(at, argument - 1);
                    } else {
                        top--;
                    }
                } else {
                    if (top < 1) {
                        return breakOff();
                    }
                    long joined = join(operation, stack[top - 1], stack[top]);
                    if (joined > MAX_VALUE || joined < -MAX_VALUE) {
                        return breakOff();
                    }
                    top--;
                    stack[top] = (int) joined;
                }
            }
            return top >= 0 ? stack[top] : breakOff();
        }

        private int breakOff() {
            broken = true;
            return 0;
        }

        private static long join(int operation, long one, long another) {
            switch (operation) {
                case ADD: return one + another;
                case SUBTRACT: return one - another;
                case MULTIPLY: return one * another;
                case DIVIDE: return another == 0 ? BEYOND : one / another;
                case REMAIN: return another == 0 ? BEYOND : one % another;
                case LESS: return one < another ? 1 : 0;
                case GREATER: return one > another ? 1 : 0;
                case EQUAL: return one == another ? 1 : 0;
                default: return BEYOND;
            }
        }
    }

    /** What the law in force says of an owner and a visitor, or of a debt. */
    private static final class Rules {
        final Machine machine = new Machine();

        int depthNow(Town town, int owner, int visitor) {
            Ledger ledger = town.ledger;
            return depth(town, owner, visitor, ledger.owed(owner, visitor), ledger.owed(visitor, owner));
        }

        int depth(Town town, int owner, int visitor, int owed, int back) {
            int rooms = town.rooms[owner];
            if (town.force != NONE) {
                int[] law = town.law[town.force];
                fillWords(town, owner, visitor, owed, back);
                if (lastTold(law, BARS) != UNTOLD) {
                    return 0;
                }
                int told = lastTold(law, DEPTH);
                if (told != UNTOLD) {
                    return nearest(told, 0, rooms);
                }
            }
            return owed == 0 ? 0 : Math.min(rooms, 1 + owed / 100);
        }

        /** How a debt grows (GROWS), or for what it is sold (SELLS). */
        int ofDebt(Town town, int debt, int kind) {
            Ledger ledger = town.ledger;
            int amount = ledger.amount[debt];
            if (town.force != NONE) {
                int debtor = ledger.debtor[debt];
                int creditor = ledger.creditor[debt];
                fillWords(town, debtor, creditor, ledger.owed(debtor, creditor), ledger.owed(creditor, debtor));
                machine.words[6] = amount;
                machine.words[7] = ledger.day - ledger.since[debt];
                int told = lastTold(town.law[town.force], kind);
                if (told != UNTOLD) {
                    return nearest(told, 0, kind == GROWS ? MAX_GROWTH : MAX_MONEY);
                }
            }
            return kind == GROWS ? 0 : amount;
        }

        /** The words of a law, in the order of LAW_WORDS, as they are asked of an owner and a visitor. */
        private void fillWords(Town town, int owner, int visitor, int owed, int back) {
            int[] words = machine.words;
            words[0] = owner;
            words[1] = visitor;
            words[2] = owed;
            words[3] = back;
            words[4] = town.rooms[owner];
            words[5] = town.wary[owner];
            words[6] = -1;
            words[7] = -1;
            words[8] = town.ledger.day;
            words[9] = town.mood;
        }

        /** What the last clause of a kind tells that holds (0, if it bars); UNTOLD, if none does. */
        private int lastTold(int[] law, int kind) {
            for (int clause = law[0] - 1; clause >= 0; clause--) {
                if (column(law, clause, KIND) != kind) {
                    continue;
                }
                int test = column(law, clause, TEST);
                int end = column(law, clause, END);
                if (test < end && (machine.value(law, test, end) == 0 || machine.broken)) {
                    continue;
                }
                if (kind == BARS) {
                    return 0;
                }
                int told = machine.value(law, column(law, clause, FIRST), column(law, clause, SECOND));
                if (!machine.broken) {
                    return told;
                }
            }
            return UNTOLD;
        }

        int needOf(Town town, int visitor, int house, int room) {
            int owed = town.ledger.owed(house, visitor);
            int back = town.ledger.owed(visitor, house);
            for (int more = 0; more <= MAX_NEED; more++) {
                if (depth(town, house, visitor, owed + more, back) >= room) {
                    return more;
                }
            }
            return NONE;
        }

        int shutBy(Town town, int house, int visitor, int room) {
            int owed = town.ledger.owed(house, visitor);
            int back = town.ledger.owed(visitor, house);
            for (int less = 0; less <= owed; less++) {
                if (depth(town, house, visitor, owed - less, back) < room) {
                    return less;
                }
            }
            return NONE;
        }
    }

    /** The lendings by which all told visits get in, and the rows in which purses reach for them. */
    private static final class Lendings {
        private final int[] giver = new int[MAX_TOLD];
        private final int[] taker = new int[MAX_TOLD];
        private final int[] amount = new int[MAX_TOLD];
        private final int[] visit = new int[MAX_TOLD];
        private final int[] rowsBehind = new int[1 << MAX_TOLD];
        int size;
        int total;

        /** Whether there is a need for each visitor and house told. */
        boolean gather(Town town, Rules rules) {
            size = 0;
            total = 0;
            for (int i = 0; i < town.visits; i++) {
                int visitor = town.visit[i][VISITOR];
                int house = town.visit[i][HOUSE];
                if (toldBefore(town, i, visitor, house)) {
                    continue;
                }
                int need = rules.needOf(town, visitor, house, deepestTold(town, visitor, house));
                if (need == NONE) {
                    return false;
                }
                if (need > 0) {
                    giver[size] = visitor;
                    taker[size] = house;
                    amount[size] = need;
                    visit[size] = i;
                    size++;
                    total += need;
                }
            }
            return true;
        }

        private static boolean toldBefore(Town town, int visit, int visitor, int house) {
            for (int i = 0; i < visit; i++) {
                if (town.visit[i][VISITOR] == visitor && town.visit[i][HOUSE] == house) {
                    return true;
                }
            }
            return false;
        }

        private static int deepestTold(Town town, int visitor, int house) {
            int deepest = 0;
            for (int i = 0; i < town.visits; i++) {
                if (town.visit[i][VISITOR] == visitor && town.visit[i][HOUSE] == house) {
                    deepest = Math.max(deepest, town.visit[i][ROOM]);
                }
            }
            return deepest;
        }

        int countRows(Ledger ledger) {
            // Purses depend on which lendings have been, not on their row: sets are enough.
            int all = (1 << size) - 1;
            rowsBehind[all] = 1;
            for (int been = all - 1; been >= 0; been--) {
                int rows = 0;
                for (int i = 0; i < size; i++) {
                    if (canCome(ledger, been, i)) {
                        rows += rowsBehind[been | 1 << i];
                    }
                }
                rowsBehind[been] = rows;
            }
            return rowsBehind[0];
        }

        private boolean canCome(Ledger ledger, int been, int next) {
            return (been >> next & 1) == 0
                    && purseBehind(ledger, been, giver[next]) >= amount[next]
                    && purseBehind(ledger, been, taker[next]) + amount[next] <= MAX_MONEY;
        }

        private int purseBehind(Ledger ledger, int been, int person) {
            int purse = ledger.purse[person];
            for (int i = 0; i < size; i++) {
                if ((been >> i & 1) == 0) {
                    continue;
                }
                if (giver[i] == person) {
                    purse -= amount[i];
                } else if (taker[i] == person) {
                    purse += amount[i];
                }
            }
            return purse;
        }

        /** The visit of the i-th lending of the first row; countRows() has been asked and told some. */
        int inFirstRow(Ledger ledger, int i) {
            int been = 0;
            int chosen = NONE;
            for (int place = 0; place <= i && place < size; place++) {
                chosen = NONE;
                for (int next = 0; next < size && chosen == NONE; next++) {
                    if (canCome(ledger, been, next) && rowsBehind[been | 1 << next] > 0) {
                        chosen = next;
                    }
                }
                if (chosen == NONE) {
                    return NONE;
                }
                been |= 1 << chosen;
            }
            return chosen == NONE ? NONE : visit[chosen];
        }
    }

    /** The rows in which all told visits can be, each settled behind it, on paper. */
    private static final class Plan {
        private static final int SETS = 1 << MAX_TOLD;
        private final int[] owed = new int[MAX_PEOPLE * MAX_PEOPLE];
        private final int[] purse = new int[MAX_PEOPLE];
        private final int[] row = new int[MAX_TOLD];
        private final int[] paid = new int[MAX_TOLD];
        private final boolean[] known = new boolean[SETS];
        private final int[] knownRows = new int[SETS];
        private final int[] knownPaid = new int[SETS * MAX_TOLD];
        private boolean found;
        final int[] first = new int[MAX_TOLD];

        int countRows(Town town, Rules rules) {
            Ledger ledger = town.ledger;
            for (int p = 0; p < MAX_PEOPLE; p++) {
                purse[p] = ledger.purse[p];
                for (int q = 0; q < MAX_PEOPLE; q++) {
                    owed[p * MAX_PEOPLE + q] = ledger.owed(p, q);
                }
            }
            for (int set = 0; set < SETS; set++) {
                known[set] = false;
            }
            found = false;
            return rowsBehind(town, rules, 0, 0);
        }

        private int rowsBehind(Town town, Rules rules, int been, int place) {
            if (place >= town.visits || place >= MAX_TOLD) {
                keepFirst();
                return 1;
            }
            // What each visit was settled for tells all purses and debts: the same again has the same rows.
            if (known[been] && paidAsKnown(been)) {
                return knownRows[been];
            }
            int rows = 0;
            for (int i = 0; i < town.visits; i++) {
                if ((been >> i & 1) != 0 || !getsIn(town, rules, town.visit[i])) {
                    continue;
                }
                row[place] = i;
                settle(town.visit[i], i);
                rows += rowsBehind(town, rules, been | 1 << i, place + 1);
                unsettle(town.visit[i], i);
            }
            known[been] = true;
            knownRows[been] = rows;
            System.arraycopy(paid, 0, knownPaid, been * MAX_TOLD, MAX_TOLD);
            return rows;
        }

        private void keepFirst() {
            if (!found) {
                found = true;
                System.arraycopy(row, 0, first, 0, MAX_TOLD);
            }
        }

        private boolean paidAsKnown(int been) {
            for (int i = 0; i < MAX_TOLD; i++) {
                if (paid[i] != knownPaid[been * MAX_TOLD + i]) {
                    return false;
                }
            }
            return true;
        }

        private boolean getsIn(Town town, Rules rules, int[] visit) {
            int house = visit[HOUSE];
            int visitor = visit[VISITOR];
            int owes = owed[house * MAX_PEOPLE + visitor];
            int back = owed[visitor * MAX_PEOPLE + house];
            return rules.depth(town, house, visitor, owes, back) >= visit[ROOM];
        }

        private void settle(int[] visit, int i) {
            int house = visit[HOUSE];
            int visitor = visit[VISITOR];
            int can = Math.min(purse[house], MAX_MONEY - purse[visitor]);
            paid[i] = Math.min(Math.min(visit[MORE], can), owed[house * MAX_PEOPLE + visitor]);
            move(house, visitor, paid[i]);
        }

        private void unsettle(int[] visit, int i) {
            move(visit[HOUSE], visit[VISITOR], -paid[i]);
            paid[i] = 0;
        }

        private void move(int house, int visitor, int much) {
            purse[house] -= much;
            purse[visitor] += much;
            owed[house * MAX_PEOPLE + visitor] -= much;
        }
    }

    /** The debts that a thief buys. */
    private static final class Theft {
        private final int[] debt = new int[MAX_DEBTS];
        private final int[] price = new int[MAX_DEBTS];
        private int thief;
        private int house;
        private int room;
        private int back;
        private boolean found;
        int bestPrice;
        int bestDebts;

        boolean seek(Town town, Rules rules, int thief, int house, int room) {
            Ledger ledger = town.ledger;
            this.thief = thief;
            this.house = house;
            this.room = room;
            back = ledger.owed(thief, house);
            found = false;
            int size = 0;
            for (int d = 0; d < ledger.debts; d++) {
                if (ledger.debtor[d] == house && ledger.creditor[d] != thief) {
                    debt[size] = d;
                    price[size] = rules.ofDebt(town, d, SELLS);
                    size++;
                }
            }
            choose(town, rules, size - 1, ledger.owed(house, thief), 0, 0);
            return found;
        }

        /** From the last debt to the first, without it ahead of with it: sets come in the order of their bits. */
        private void choose(Town town, Rules rules, int next, int owed, int paid, int chosen) {
            if (found && !isBetter(paid, chosen)) {
                return;
            }
            if (next < 0 || next >= MAX_DEBTS) {
                if (rules.depth(town, house, thief, owed, back) >= room) {
                    found = true;
                    bestPrice = paid;
                    bestDebts = chosen;
                }
                return;
            }
            choose(town, rules, next - 1, owed, paid, chosen);
            int amount = town.ledger.amount[debt[next]];
            choose(town, rules, next - 1, owed + amount, paid + price[next], chosen | 1 << debt[next]);
        }

        private boolean isBetter(int paid, int chosen) {
            return paid < bestPrice
                    || paid == bestPrice && Integer.bitCount(chosen) < Integer.bitCount(bestDebts);
        }
    }

    /** Rings of debts, and payments by which all is even. */
    private static final class Clearing {
        private final int[] owesTo = new int[MAX_PEOPLE];
        private final int[] balance = new int[MAX_PEOPLE];
        private final int[] evenGroups = new int[1 << MAX_PEOPLE];
        final int[] ring = new int[MAX_PEOPLE];
        int size;

        void seek(Town town) {
            Ledger ledger = town.ledger;
            for (int p = 0; p < MAX_PEOPLE; p++) {
                owesTo[p] = 0;
            }
            for (int d = 0; d < ledger.debts; d++) {
                owesTo[ledger.debtor[d]] |= 1 << ledger.creditor[d];
            }
            size = 0;
            for (int many = 2; many <= town.people; many++) {
                for (int set = 0; set < 1 << town.people; set++) {
                    if (Integer.bitCount(set) == many && ringOf(set)) {
                        size = many;
                        return;
                    }
                }
            }
        }

        private boolean ringOf(int set) {
            ring[0] = Integer.numberOfTrailingZeros(set);
            return walk(set & ~(1 << ring[0]), 1);
        }

        private boolean walk(int left, int place) {
            int next = owesTo[ring[place - 1]];
            if (left == 0 || place >= MAX_PEOPLE) {
                return left == 0 && (next >> ring[0] & 1) != 0;
            }
            for (int p = 0; p < MAX_PEOPLE; p++) {
                if ((left & next) >> p == 0) {
                    return false;
                }
                if (((left & next) >> p & 1) != 0) {
                    ring[place] = p;
                    if (walk(left & ~(1 << p), place + 1)) {
                        return true;
                    }
                }
            }
            return false;
        }

        int least(Ledger ledger) {
            int least = MAX_DEBTS * MAX_MONEY;
            for (int i = 0; i < size; i++) {
                least = Math.min(least, ledger.owed(ring[i], ring[(i + 1) % size]));
            }
            return least;
        }

        void lessenAll(Ledger ledger, int much) {
            for (int i = 0; i < size; i++) {
                ledger.lessen(ring[i], ring[(i + 1) % size], much);
            }
        }

        /** All people, but for one in each group that is even by itself: of such groups there are most. */
        int fewestPayments(Town town) {
            for (int p = 0; p < town.people; p++) {
                balance[p] = town.ledger.balanceOf(p);
            }
            evenGroups[0] = 0;
            int all = (1 << town.people) - 1;
            for (int set = 1; set <= all; set++) {
                int sum = 0;
                int most = 0;
                for (int p = 0; p < town.people; p++) {
                    if ((set >> p & 1) != 0) {
                        sum += balance[p];
                        most = Math.max(most, evenGroups[set & ~(1 << p)]);
                    }
                }
                evenGroups[set] = sum == 0 ? most + 1 : most;
            }
            return town.people - evenGroups[all];
        }
    }

    /** A month by draws, and what it left of each person. */
    private static final class Month {
        private static final int FACTOR = 1103;
        private static final int ADDEND = 12345;
        private static final int MODULUS = 1000003;
        private static final int MAX_LENT = 50;
        private static final int COLUMNS = 3;
        private final int[] kept = new int[MAX_PEOPLE * COLUMNS];
        private int s;
        int people;

        /** Passes a month in the town itself; how much was lent. */
        int pass(Town town, Rules rules, int seed, int days) {
            s = seed;
            int lent = 0;
            for (int day = 0; day < days; day++) {
                int giver = draw(town.people);
                int taker = draw(town.people);
                int amount = draw(MAX_LENT) + 1;
                lent += Math.max(0, lendOut(town, giver, taker, amount));
                int debtor = draw(town.people);
                int creditor = draw(town.people);
                payBack(town, debtor, creditor, MAX_MONEY);
                if (nextDay(town, rules) < 0) {
                    break;
                }
            }
            return lent;
        }

        private int draw(int m) {
            s = (s * FACTOR + ADDEND) % MODULUS;
            return m > 0 ? s % m : 0;
        }

        void keep(int person, int purse, int balance, int doors) {
            kept[person * COLUMNS] = purse;
            kept[person * COLUMNS + 1] = balance;
            kept[person * COLUMNS + 2] = doors;
        }

        int told(int person, int what) {
            return between(person, 0, people - 1) && between(what, 0, COLUMNS - 1)
                    ? kept[person * COLUMNS + what] : NOTHING;
        }
    }
}
