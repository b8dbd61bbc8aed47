import java.util.ArrayList;
import java.util.Arrays;
import java.util.List;

/**
 * Long runs of drawn calls on DebtDoors and on a model beside it, whose answers must be the same. The model is
 * written from the document by itself and as naively as can be (trees of texts, all rows one by one, copies of
 * all that stands), so that a fault of a shortcut in the class shows.
 */
public final class ModelTest {
    static final int NONE = -1;
    static final int NOTHING = -1000000;

    // ------------------------------------------------------------------ the model

    static final class Broken extends RuntimeException {
        private static final long serialVersionUID = 1;
        Broken() { super(null, null, false, false); }
    }

    static final class Fault extends RuntimeException {
        private static final long serialVersionUID = 1;
        final int place;
        Fault(int place) { super(null, null, false, false); this.place = place; }
    }

    static final class Refusal extends RuntimeException {
        private static final long serialVersionUID = 1;
        final int code;
        Refusal(int code) { super(null, null, false, false); this.code = code; }
    }

    interface Words { long value(String word, int p, int q); }

    static final class Node {
        final String op;
        final List<Node> parts = new ArrayList<>();
        int number, p, q;
        Node(String op, Node... nodes) { this.op = op; parts.addAll(Arrays.asList(nodes)); }

        long eval(Words words) {
            long v;
            switch (op) {
                case "number": return number;
                case "word": return words.value(word, p, q);
                case "not": return 1 - parts.get(0).eval(words);
                case "or":
                    for (Node n : parts) if (n.eval(words) == 1) return 1;
                    return 0;
                case "and":
                    for (Node n : parts) if (n.eval(words) == 0) return 0;
                    return 1;
                default:
            }
            long a = parts.get(0).eval(words);
            long b = parts.get(1).eval(words);
            switch (op) {
                case "<": return a < b ? 1 : 0;
                case ">": return a > b ? 1 : 0;
                case "=": return a == b ? 1 : 0;
                case "+": v = a + b; break;
                case "-": v = a - b; break;
                case "*": v = a * b; break;
                case "/": if (b == 0) throw new Broken(); v = a / b; break;
                case "%": if (b == 0) throw new Broken(); v = a % b; break;
                default: throw new IllegalStateException(op);
            }
            if (Math.abs(v) > 1000000000L) throw new Broken();
            return v;
        }
        String word;
    }

    static final class Clause {
        String kind;
        Node one, two, three, test;
        int times = 1;

        boolean isSo(Words words) {
            try { return test == null || test.eval(words) == 1; } catch (Broken b) { return false; }
        }
    }

    static final class Parser {
        final List<String> tokens = new ArrayList<>();
        final List<Integer> places = new ArrayList<>();
        final boolean orders;
        int at = 0, parts = 0;

        Parser(String text, boolean orders) {
            this.orders = orders;
            java.util.regex.Matcher m = java.util.regex.Pattern.compile("[a-z]+|[0-9]+|[^ ]", java.util.regex.Pattern.DOTALL).matcher(text);
            while (m.find()) { tokens.add(m.group()); places.add(m.start()); }
            tokens.add("");
            places.add(text.length());
        }

        Fault fault() { return new Fault(places.get(at)); }
        String token() { return tokens.get(at); }
        boolean eat(String s) { if (token().equals(s)) { at++; return true; } return false; }
        void must(String s) { if (!eat(s)) throw fault(); }
        boolean isNumber() { return token().matches("[0-9]+"); }
        java.math.BigInteger number() { return new java.math.BigInteger(token()); }
        int number(int least, int most) {
            if (!isNumber()) throw fault();
            java.math.BigInteger n = number();
            if (n.compareTo(java.math.BigInteger.valueOf(least)) < 0 || n.compareTo(java.math.BigInteger.valueOf(most)) > 0) throw fault();
            at++;
            return n.intValue();
        }

        List<Clause> clauses() {
            List<Clause> all = new ArrayList<>();
            do {
                if (all.size() == 12) throw fault();
                all.add(orders ? order() : law());
            } while (eat(";"));
            if (!token().isEmpty()) throw fault();
            return all;
        }

        Clause law() {
            Clause c = new Clause();
            c.kind = token();
            if (!List.of("depth", "grows", "sells", "bars").contains(c.kind)) throw fault();
            at++;
            if (!c.kind.equals("bars")) c.one = sum(0);
            if (eat("if")) c.test = test(0);
            return c;
        }

        Clause order() {
            Clause c = new Clause();
            c.kind = token();
            if (!List.of("lend", "repay", "wait").contains(c.kind)) throw fault();
            at++;
            if (!c.kind.equals("wait")) {
                c.one = sum(0);
                must("to");
                c.two = sum(0);
                must("of");
                c.three = sum(0);
            }
            if (eat("times")) c.times = number(1, 20);
            if (eat("if")) c.test = test(0);
            return c;
        }

        Node test(int depth) {
            Node n = new Node("or", both(depth));
            while (eat("or")) n.parts.add(both(depth));
            return n;
        }

        Node both(int depth) {
            Node n = new Node("and", plain(depth));
            while (eat("and")) n.parts.add(plain(depth));
            return n;
        }

        void open(int depth) { if (depth == 8) throw fault(); at++; }

        Node plain(int depth) {
            if (eat("not")) return new Node("not", plain(depth));
            if (token().equals("(")) {
                open(depth);
                Node n = test(depth + 1);
                must(")");
                return n;
            }
            Node a = sum(depth);
            String op = token();
            if (!List.of("<", ">", "=").contains(op)) throw fault();
            at++;
            return new Node(op, a, sum(depth));
        }

        Node sum(int depth) {
            Node n = term(depth);
            while (List.of("+", "-").contains(token())) {
                String op = token();
                at++;
                n = new Node(op, n, term(depth));
            }
            return n;
        }

        Node term(int depth) {
            Node n = part(depth);
            while (List.of("*", "/", "%").contains(token())) {
                String op = token();
                at++;
                n = new Node(op, n, part(depth));
            }
            return n;
        }

        static final List<String> LAW = List.of("owner", "visitor", "owes", "back", "rooms", "wary", "amount", "age", "day", "mood");
        static final List<String> ORDER = List.of("day", "debts", "done", "last", "purse", "owed");

        Node part(int depth) {
            if (token().equals("[")) {
                open(depth);
                Node n = sum(depth + 1);
                must("]");
                return n;
            }
            boolean word = (orders ? ORDER : LAW).contains(token());
            if (!word && !isNumber() || parts == 50) throw fault();
            parts++;
            if (!word) {
                Node n = new Node("number");
                n.number = number(0, 1000);
                return n;
            }
            Node n = new Node("word");
            n.word = token();
            at++;
            if (n.word.equals("purse") || n.word.equals("owed")) n.p = number(0, 6);
            if (n.word.equals("owed")) n.q = number(0, 6);
            return n;
        }
    }

    /** All that images keep. */
    static final class State {
        List<int[]> people = new ArrayList<>();
        List<int[]> debts = new ArrayList<>();
        List<int[]> visits = new ArrayList<>();
        List<int[]> scuffs = new ArrayList<>();
        List<List<Clause>> laws = new ArrayList<>();
        int force = NONE, day = 0, mood = 0;

        static List<int[]> deep(List<int[]> rows) {
            List<int[]> copy = new ArrayList<>();
            for (int[] row : rows) copy.add(row.clone());
            return copy;
        }

        State copy() {
            State s = new State();
            s.people = deep(people);
            s.debts = deep(debts);
            s.visits = deep(visits);
            s.scuffs = deep(scuffs);
            s.laws = new ArrayList<>(laws);
            s.force = force;
            s.day = day;
            s.mood = mood;
            return s;
        }

        boolean person(int p) { return p >= 0 && p < people.size(); }
        boolean pair(int p, int q) { return person(p) && person(q) && p != q; }
        int purse(int p) { return people.get(p)[0]; }

        int owes(int p, int q) {
            int sum = 0;
            for (int[] d : debts) if (d[0] == p && d[1] == q) sum += d[2];
            return sum;
        }

        int balance(int p) {
            int sum = 0;
            for (int q = 0; q < people.size(); q++) sum += owes(q, p) - owes(p, q);
            return sum;
        }

        Words words(int owner, int visitor, int amount, int age) {
            return (word, p, q) -> {
                switch (word) {
                    case "owner": return owner;
                    case "visitor": return visitor;
                    case "owes": return owes(owner, visitor);
                    case "back": return owes(visitor, owner);
                    case "rooms": return people.get(owner)[1];
                    case "wary": return people.get(owner)[2];
                    case "amount": return amount;
                    case "age": return age;
                    case "day": return day;
                    case "mood": return mood;
                    default: throw new IllegalStateException(word);
                }
            };
        }

        /** null: no clause of the kind holds. */
        Long told(String kind, Words words) {
            Long told = null;
            if (force == NONE) return null;
            for (Clause c : laws.get(force)) {
                if (!c.kind.equals(kind) || !c.isSo(words)) continue;
                try { told = c.one == null ? 0 : c.one.eval(words); } catch (Broken b) { continue; }
            }
            return told;
        }

        int deep(int owner, int visitor) {
            Words words = words(owner, visitor, -1, -1);
            if (told("bars", words) != null) return 0;
            Long told = told("depth", words);
            int rooms = people.get(owner)[1];
            if (told != null) return (int) Math.max(0, Math.min(rooms, told));
            int owed = owes(owner, visitor);
            return owed == 0 ? 0 : Math.min(rooms, 1 + owed / 100);
        }

        int grows(int[] d) {
            Long told = told("grows", words(d[0], d[1], d[2], day - d[3]));
            return told == null ? 0 : (int) Math.max(0, Math.min(99, told));
        }

        int price(int[] d) {
            Long told = told("sells", words(d[0], d[1], d[2], day - d[3]));
            return told == null ? d[2] : (int) Math.max(0, Math.min(9999, told));
        }

        /** A state in which the owner owes the visitor so much in one debt, and nothing else is otherwise. */
        State owing(int owner, int visitor, int amount) {
            State s = copy();
            s.debts.removeIf(d -> d[0] == owner && d[1] == visitor);
            if (amount > 0) s.debts.add(new int[] {owner, visitor, amount, day});
            return s;
        }

        int need(int visitor, int house, int room) {
            int owed = owes(house, visitor);
            for (int a = 0; a <= 999; a++) if (owing(house, visitor, owed + a).deep(house, visitor) >= room) return a;
            return NONE;
        }

        int shut(int owner, int visitor, int room) {
            int owed = owes(owner, visitor);
            State s = owing(owner, visitor, 0);
            int[] d = new int[] {owner, visitor, 0, day};
            s.debts.add(d);
            for (int a = 0; a <= owed; a++) {
                d[2] = owed - a;
                if (s.deep(owner, visitor) < room) return a;
            }
            return NONE;
        }

        void lower(int debtor, int creditor, int much) {
            int left = much;
            for (int[] d : debts) {
                if (d[0] == debtor && d[1] == creditor) {
                    int cut = Math.min(d[2], left);
                    d[2] -= cut;
                    left -= cut;
                }
            }
            debts.removeIf(d -> d[2] == 0);
        }

        int lend(int giver, int taker, int amount) {
            if (amount < 1 || amount > 9999) throw new Refusal(-1);
            if (!person(giver) || !person(taker)) throw new Refusal(-2);
            if (giver == taker || purse(giver) < amount || purse(taker) + amount > 9999) throw new Refusal(-3);
            if (debts.size() == 16) throw new Refusal(-5);
            people.get(giver)[0] -= amount;
            people.get(taker)[0] += amount;
            debts.add(new int[] {taker, giver, amount, day});
            return amount;
        }

        int repay(int debtor, int creditor, int amount) {
            if (amount < 1 || amount > 9999) throw new Refusal(-1);
            if (!person(debtor) || !person(creditor)) throw new Refusal(-2);
            if (debtor == creditor) throw new Refusal(-3);
            int much = settle(debtor, creditor, amount);
            if (much == 0) throw new Refusal(-3);
            return much;
        }

        int settle(int debtor, int creditor, int upTo) {
            int much = Math.min(upTo, owes(debtor, creditor));
            much = Math.min(much, purse(debtor));
            much = Math.min(much, 9999 - purse(creditor));
            people.get(debtor)[0] -= much;
            people.get(creditor)[0] += much;
            lower(debtor, creditor, much);
            return much;
        }

        int await() {
            if (day == 999) throw new Refusal(-3);
            day++;
            int total = 0;
            for (int[] d : debts) {
                int was = d[2];
                d[2] = Math.min(9999, was + was * grows(d) / 100);
                total += d[2] - was;
            }
            return total;
        }

        boolean scuffsAreSo() {
            for (int[] s : scuffs) if (deep(s[1], s[0]) >= s[2] != (s[3] == 1)) return false;
            return true;
        }

        /** The ring, or null: all rows of unlike people, the best of them. */
        int[] ring() {
            int[] best = null;
            for (int[] row : rowsOfPeople(new int[0])) {
                if (row.length < 2) continue;
                boolean is = true;
                for (int i = 0; i < row.length; i++) {
                    is &= owes(row[i], row[(i + 1) % row.length]) > 0 && row[i] >= row[0];
                }
                if (is && (best == null || before(row, best))) best = row;
            }
            return best;
        }

        List<int[]> rowsOfPeople(int[] begun) {
            List<int[]> rows = new ArrayList<>();
            rows.add(begun);
            for (int p = 0; p < people.size(); p++) {
                int q = p;
                if (Arrays.stream(begun).anyMatch(x -> x == q)) continue;
                if (begun.length > 0 && owes(begun[begun.length - 1], p) == 0) continue;
                int[] more = Arrays.copyOf(begun, begun.length + 1);
                more[begun.length] = p;
                rows.addAll(rowsOfPeople(more));
            }
            return rows;
        }

        static int bits(int[] row) {
            int bits = 0;
            for (int p : row) bits |= 1 << p;
            return bits;
        }

        static boolean before(int[] a, int[] b) {
            if (a.length != b.length) return a.length < b.length;
            if (bits(a) != bits(b)) return bits(a) < bits(b);
            return Arrays.compare(a, b) < 0;
        }

        int least(int[] ring) {
            int least = Integer.MAX_VALUE;
            for (int i = 0; i < ring.length; i++) least = Math.min(least, owes(ring[i], ring[(i + 1) % ring.length]));
            return least;
        }

        int clear() {
            int[] ring = ring();
            if (ring == null) throw new Refusal(-3);
            int least = least(ring);
            for (int i = 0; i < ring.length; i++) lower(ring[i], ring[(i + 1) % ring.length], least);
            return least;
        }
    }

    static List<int[]> permutations(int n) {
        List<int[]> all = new ArrayList<>();
        permute(new int[n], 0, n, all);
        return all;
    }

    static void permute(int[] row, int at, int n, List<int[]> all) {
        if (at == n) {
            all.add(row.clone());
            return;
        }
        for (int i = 0; i < n; i++) {
            boolean used = false;
            for (int j = 0; j < at; j++) used |= row[j] == i;
            if (used) continue;
            row[at] = i;
            permute(row, at + 1, n, all);
        }
    }

    interface Deed { int run(); }

    static final class Model {
        State s = new State();
        State[] images = new State[2];
        List<State> undo = new ArrayList<>();
        List<Integer> deeds = new ArrayList<>();
        String tape = "";
        int fault = NONE, blots = 0, stopped = NONE, status = 0;
        int[] refused = new int[7];
        int[][] month = new int[0][];

        int face(Deed deed) {
            try {
                int answer = deed.run();
                status = 0;
                return answer;
            } catch (Refusal r) {
                refused[-r.code]++;
                status = r.code;
                return r.code;
            }
        }

        void check(boolean is, int code) { if (!is) throw new Refusal(code); }
        static boolean in(int v, int least, int most) { return v >= least && v <= most; }
        void forget() { undo.clear(); deeds.clear(); }

        int person(int purse, int rooms, int wary) {
            return face(() -> {
                check(in(purse, 0, 9999) && in(rooms, 1, 3) && in(wary, 0, 99), -1);
                check(s.people.size() < 7, -5);
                s.people.add(new int[] {purse, rooms, wary});
                forget();
                return s.people.size() - 1;
            });
        }

        int put(int person, int what, int value) {
            return face(() -> {
                check(what == 0 && in(value, 0, 9999) || what == 1 && in(value, 1, 3) || what == 2 && in(value, 0, 99), -1);
                check(s.person(person), -2);
                int was = s.people.get(person)[what];
                s.people.get(person)[what] = value;
                forget();
                return was;
            });
        }

        int of(int person, int what) { return s.person(person) && in(what, 0, 2) ? s.people.get(person)[what] : NONE; }

        void newDebt(int debtor, int creditor, int amount) {
            check(debtor != creditor && in(amount, 1, 9999), -1);
            check(s.person(debtor) && s.person(creditor), -2);
            check(s.debts.size() < 16, -5);
            s.debts.add(new int[] {debtor, creditor, amount, s.day});
        }

        int debt(int debtor, int creditor, int amount) {
            return face(() -> {
                newDebt(debtor, creditor, amount);
                forget();
                return s.debts.size() - 1;
            });
        }

        int at(int debt, int what) {
            if (!in(debt, 0, s.debts.size() - 1) || !in(what, 0, 5)) return NONE;
            int[] d = s.debts.get(debt);
            return what == 4 ? s.price(d) : what == 5 ? s.grows(d) : d[what];
        }

        int owes(int debtor, int creditor) { return s.pair(debtor, creditor) ? s.owes(debtor, creditor) : NONE; }

        int terms(int what, int value) {
            return face(() -> {
                check(what == 0 && in(value, 0, 999) || what == 1 && in(value, 0, 9), -1);
                int was = what == 0 ? s.day : s.mood;
                if (what == 0) s.day = value; else s.mood = value;
                forget();
                return was;
            });
        }

        int feed(int... five) {
            if (tape.length() + 20 > 400) return NONE;
            for (int n : five) {
                for (int i = 3; i >= 0; i--) tape += (char) (n >>> 8 * i & 255);
            }
            return tape.length();
        }

        int end(int n) {
            if (!in(n, 0, tape.length())) return NONE;
            tape = tape.substring(0, n);
            return n;
        }

        int row() {
            return face(() -> {
                check(!tape.isEmpty(), -6);
                int came = 0;
                blots = 0;
                for (int i = 0; i < tape.length(); i += 4) {
                    try {
                        check(i + 4 <= tape.length(), -6);
                        newDebt(tape.charAt(i), tape.charAt(i + 1), tape.charAt(i + 2) << 8 | tape.charAt(i + 3));
                        came++;
                    } catch (Refusal r) {
                        blots++;
                    }
                }
                tape = "";
                forget();
                return came;
            });
        }

        List<Clause> read(boolean orders) {
            String text = tape;
            tape = "";
            fault = NONE;
            try {
                return new Parser(text, orders).clauses();
            } catch (Fault f) {
                fault = f.place;
                throw new Refusal(-6);
            }
        }

        int law() {
            return face(() -> {
                if (s.laws.size() == 6) tape = "";
                check(s.laws.size() < 6, -5);
                s.laws.add(read(false));
                return s.laws.size() - 1;
            });
        }

        int done, last;

        Words orderWords() {
            return (word, p, q) -> {
                switch (word) {
                    case "day": return s.day;
                    case "debts": return s.debts.size();
                    case "done": return done;
                    case "last": return last;
                    case "purse": return s.person(p) ? s.purse(p) : -1;
                    case "owed": return s.pair(p, q) ? s.owes(p, q) : 0;
                    default: throw new IllegalStateException(word);
                }
            };
        }

        int orders() {
            return face(() -> {
                stopped = NONE;
                List<Clause> clauses = read(true);
                State before = s.copy();
                List<State> undoBefore = new ArrayList<>(undo);
                List<Integer> deedsBefore = new ArrayList<>(deeds);
                done = 0;
                last = -1;
                for (int c = 0; c < clauses.size(); c++) {
                    try {
                        for (int i = 0; i < clauses.get(c).times; i++) order(clauses.get(c));
                    } catch (Refusal | Broken e) {
                        s = before;
                        undo = undoBefore;
                        deeds = deedsBefore;
                        stopped = c;
                        throw new Refusal(e instanceof Refusal && ((Refusal) e).code == -5 ? -5 : -3);
                    }
                }
                return done;
            });
        }

        void order(Clause c) {
            if (!c.isSo(orderWords())) return;
            if (c.kind.equals("wait")) {
                deed(4, s::await);
            } else {
                int one = (int) c.one.eval(orderWords());
                int two = (int) c.two.eval(orderWords());
                int three = (int) c.three.eval(orderWords());
                boolean lend = c.kind.equals("lend");
                last = deed(lend ? 0 : 1, () -> lend ? s.lend(one, two, three) : s.repay(one, two, three));
            }
            done++;
        }

        int deed(int kind, Deed deed) {
            State before = s.copy();
            int answer = deed.run();
            undo.add(before);
            deeds.add(kind);
            if (undo.size() > 16) {
                undo.remove(0);
                deeds.remove(0);
            }
            return answer;
        }

        int force(int law) {
            return face(() -> {
                check(in(law, -1, s.laws.size() - 1), -2);
                int was = s.force;
                s.force = law;
                return was;
            });
        }

        int deep(int owner, int visitor) { return s.pair(owner, visitor) ? s.deep(owner, visitor) : NONE; }

        int doors(int visitor) {
            if (!s.person(visitor)) return NONE;
            int bits = 0;
            for (int h = 0; h < s.people.size(); h++) if (h != visitor && s.deep(h, visitor) > 0) bits |= 1 << h;
            return bits;
        }

        int lend(int giver, int taker, int amount) { return face(() -> deed(0, () -> s.lend(giver, taker, amount))); }
        int repay(int debtor, int creditor, int amount) { return face(() -> deed(1, () -> s.repay(debtor, creditor, amount))); }

        int forgive(int debt) {
            return face(() -> {
                check(in(debt, 0, s.debts.size() - 1), -2);
                return deed(2, () -> s.debts.remove(debt)[2]);
            });
        }

        int sell(int debt, int buyer) {
            return face(() -> {
                check(in(debt, 0, s.debts.size() - 1) && s.person(buyer), -2);
                int[] d = s.debts.get(debt);
                int price = s.price(d);
                check(buyer != d[0] && buyer != d[1], -3);
                check(s.purse(buyer) >= price && s.purse(d[1]) + price <= 9999, -3);
                return deed(3, () -> {
                    s.people.get(buyer)[0] -= price;
                    s.people.get(d[1])[0] += price;
                    d[1] = buyer;
                    return price;
                });
            });
        }

        int await() { return face(() -> deed(4, s::await)); }
        int clear() { return face(() -> deed(5, s::clear)); }

        int undo() {
            return face(() -> {
                check(!undo.isEmpty(), -3);
                State was = undo.remove(undo.size() - 1);
                // Only deeds are undone: purses, debts, the day.
                for (int p = 0; p < s.people.size(); p++) s.people.get(p)[0] = was.purse(p);
                s.debts = State.deep(was.debts);
                s.day = was.day;
                return deeds.remove(deeds.size() - 1);
            });
        }

        int need(int visitor, int house, int room) {
            return s.pair(visitor, house) && in(room, 1, 3) ? s.need(visitor, house, room) : NONE;
        }

        int visit(int visitor, int house, int room, int settle) {
            return face(() -> {
                check(visitor != house && in(room, 1, 3) && in(settle, 0, 999), -1);
                check(s.person(visitor) && s.person(house), -2);
                check(s.visits.size() < 8, -5);
                s.visits.add(new int[] {visitor, house, room, settle});
                return s.visits.size();
            });
        }

        int cancel() {
            int were = s.visits.size();
            s.visits.clear();
            return were;
        }

        int lendings(int what) {
            List<int[]> all = new ArrayList<>();
            int total = 0;
            for (int i = 0; i < s.visits.size(); i++) {
                int[] v = s.visits.get(i);
                int deepest = 0;
                boolean first = true;
                for (int j = 0; j < s.visits.size(); j++) {
                    int[] w = s.visits.get(j);
                    if (w[0] != v[0] || w[1] != v[1]) continue;
                    if (j < i) first = false;
                    deepest = Math.max(deepest, w[2]);
                }
                if (!first) continue;
                int need = s.need(v[0], v[1], deepest);
                if (need == NONE) return NONE;
                if (need > 0) all.add(new int[] {v[0], v[1], need, i});
                total += need;
            }
            if (what == 0) return all.size();
            if (what == 1) return total;
            int rows = 0;
            int[] first = null;
            for (int[] row : permutations(all.size())) {
                int[] purse = new int[7];
                for (int p = 0; p < s.people.size(); p++) purse[p] = s.purse(p);
                boolean can = true;
                for (int i : row) {
                    int[] l = all.get(i);
                    can &= purse[l[0]] >= l[2] && purse[l[1]] + l[2] <= 9999;
                    purse[l[0]] -= l[2];
                    purse[l[1]] += l[2];
                }
                if (!can) continue;
                if (first == null) first = row;
                rows++;
            }
            if (what == 2) return rows;
            return what >= 3 && first != null && what - 3 < first.length ? all.get(first[what - 3])[3] : NONE;
        }

        int planRows;
        List<Integer> planFirst;

        int plan(int i) {
            planRows = 0;
            planFirst = null;
            planFrom(s.copy(), new ArrayList<>());
            if (i == NONE) return planRows;
            return planFirst != null && in(i, 0, planFirst.size() - 1) ? planFirst.get(i) : NONE;
        }

        void planFrom(State paper, List<Integer> row) {
            if (row.size() == paper.visits.size()) {
                planRows++;
                if (planFirst == null) planFirst = new ArrayList<>(row);
                return;
            }
            for (int i = 0; i < paper.visits.size(); i++) {
                int[] v = paper.visits.get(i);
                if (row.contains(i) || paper.deep(v[1], v[0]) < v[2]) continue;
                State next = paper.copy();
                next.settle(v[1], v[0], v[3]);
                row.add(i);
                planFrom(next, row);
                row.remove(row.size() - 1);
            }
        }

        int thief(int thief, int house, int room, int what) {
            if (!s.pair(thief, house) || !in(room, 1, 3) || !in(what, 0, 1)) return NONE;
            int mine = 0;
            int n = s.debts.size();
            int[] prices = new int[n];
            for (int d = 0; d < n; d++) {
                if (s.debts.get(d)[0] == house && s.debts.get(d)[1] != thief) mine |= 1 << d;
                prices[d] = s.price(s.debts.get(d));
            }
            int best = NONE, bestPrice = 0;
            for (int set = 0; set < 1 << n; set++) {
                if ((set & ~mine) != 0) continue;
                int price = 0;
                for (int d = 0; d < n; d++) if ((set >> d & 1) != 0) price += prices[d];
                boolean better = best == NONE || price < bestPrice
                    || price == bestPrice && Integer.bitCount(set) < Integer.bitCount(best);
                if (!better) continue;
                State paper = s.copy();
                for (int d = 0; d < n; d++) if ((set >> d & 1) != 0) paper.debts.get(d)[1] = thief;
                if (paper.deep(house, thief) < room) continue;
                best = set;
                bestPrice = price;
            }
            return best == NONE ? NONE : what == 0 ? bestPrice : best;
        }

        int shut(int owner, int visitor, int room) {
            return s.pair(owner, visitor) && in(room, 1, 3) ? s.shut(owner, visitor, room) : NONE;
        }

        int ban(int person) {
            if (!s.person(person)) return NONE;
            int all = 0;
            for (int h = 0; h < s.people.size(); h++) {
                if (h == person) continue;
                int shut = s.shut(h, person, 1);
                if (shut == NONE) return NONE;
                all += shut;
            }
            return all;
        }

        int party(int what) {
            int house = NONE, least = Integer.MAX_VALUE;
            for (int h = 0; h < s.people.size(); h++) {
                int sum = 0;
                for (int v = 0; v < s.people.size() && sum >= 0; v++) {
                    if (v == h) continue;
                    int need = s.need(v, h, 1);
                    sum = need == NONE ? Integer.MIN_VALUE : sum + need;
                }
                if (sum >= 0 && sum < least) {
                    house = h;
                    least = sum;
                }
            }
            return house == NONE ? NONE : what == 0 ? house : what == 1 ? least : NONE;
        }

        int ring(int i) {
            int[] ring = s.ring();
            return ring == null ? NONE : i == NONE ? ring.length : in(i, 0, ring.length - 1) ? ring[i] : NONE;
        }

        int cleared(int what) {
            if (s.ring() == null || !in(what, 0, 1)) return NONE;
            State paper = s.copy();
            int by = paper.clear();
            if (what == 0) return by;
            int less = 0;
            for (int h = 0; h < s.people.size(); h++) {
                for (int v = 0; v < s.people.size(); v++) if (h != v && paper.deep(h, v) < s.deep(h, v)) less++;
            }
            return less;
        }

        int balance(int p) { return s.person(p) ? s.balance(p) : NOTHING; }

        int payments() {
            List<Integer> left = new ArrayList<>();
            for (int p = 0; p < s.people.size(); p++) if (s.balance(p) != 0) left.add(s.balance(p));
            return pay(left);
        }

        /** The classical way: the first one is made even by a payment to or from one of the other sign. */
        int pay(List<Integer> balances) {
            List<Integer> left = new ArrayList<>(balances);
            left.removeIf(b -> b == 0);
            if (left.isEmpty()) return 0;
            int first = left.remove(0);
            int best = Integer.MAX_VALUE;
            for (int i = 0; i < left.size(); i++) {
                if (Integer.signum(left.get(i)) == Integer.signum(first)) continue;
                List<Integer> next = new ArrayList<>(left);
                next.set(i, left.get(i) + first);
                best = Math.min(best, 1 + pay(next));
            }
            return best;
        }

        int scuff(int visitor, int house, int room, int is) {
            return face(() -> {
                check(visitor != house && in(room, 1, 3) && in(is, 0, 1), -1);
                check(s.person(visitor) && s.person(house), -2);
                check(s.scuffs.size() < 8, -5);
                s.scuffs.add(new int[] {visitor, house, room, is});
                return s.scuffs.size();
            });
        }

        int sweep() {
            int were = s.scuffs.size();
            s.scuffs.clear();
            return were;
        }

        int secret(int i) {
            List<Integer> found = new ArrayList<>();
            int n = s.people.size();
            for (int code = 0; code < 490; code++) {
                int d = code / 70, c = code % 70 / 10, a = (code % 10 + 1) * 20;
                if (d >= n || c >= n || d == c) continue;
                State paper = s.copy();
                paper.debts.add(new int[] {d, c, a, s.day});
                if (paper.scuffsAreSo()) found.add(code);
            }
            return i == NONE ? found.size() : in(i, 0, found.size() - 1) ? found.get(i) : NONE;
        }

        int denied() {
            int bits = 0;
            for (int d = 0; d < s.debts.size(); d++) {
                State paper = s.copy();
                paper.debts.remove(d);
                if (paper.scuffsAreSo()) bits |= 1 << d;
            }
            return bits;
        }

        long seed;
        int draw(int m) {
            seed = (seed * 1103 + 12345) % 1000003;
            return (int) (seed % m);
        }

        int month(int from, int n) {
            return face(() -> {
                check(in(from, 0, 1000000) && in(n, 1, 30), -1);
                int many = s.people.size();
                check(many > 0, -3);
                State real = s;
                s = real.copy();
                seed = from;
                int lent = 0;
                for (int i = 0; i < n; i++) {
                    int giver = draw(many), taker = draw(many), amount = draw(50) + 1;
                    try { lent += s.lend(giver, taker, amount); } catch (Refusal r) { /* not lent */ }
                    int debtor = draw(many), creditor = draw(many);
                    try { s.repay(debtor, creditor, 9999); } catch (Refusal r) { /* not repaid */ }
                    if (s.day == 999) break;
                    s.await();
                }
                month = new int[many][];
                for (int p = 0; p < many; p++) month[p] = new int[] {s.purse(p), s.balance(p), Integer.bitCount(doors(p))};
                s = real;
                return lent;
            });
        }

        int drawn(int person, int what) {
            return in(person, 0, month.length - 1) && in(what, 0, 2) ? month[person][what] : NOTHING;
        }

        int image(int k) {
            return face(() -> {
                check(in(k, 0, 1), -1);
                images[k] = s.copy();
                return 0;
            });
        }

        int back(int k) {
            return face(() -> {
                check(in(k, 0, 1), -1);
                check(images[k] != null, -2);
                s = images[k].copy();
                forget();
                return 0;
            });
        }

        int count(int what) {
            switch (what) {
                case 0: return s.people.size();
                case 1: return s.debts.size();
                case 2: return s.visits.size();
                case 3: return s.scuffs.size();
                case 4: return s.laws.size();
                case 5: return undo.size();
                case 6: return tape.length();
                case 7: case 8: case 9: return refused[what - 6];
                case 10: case 11: return refused[what - 5];
                case 12: return s.force;
                case 13: return s.day;
                case 14: return s.mood;
                default: return NONE;
            }
        }
    }

    // ------------------------------------------------------------------ drawn texts

    static long state;

    static int draw(int m) {
        state = state * 6364136223846793005L + 1442695040888963407L;
        return (int) ((state >>> 33) % m);
    }

    static String pick(String... of) { return of[draw(of.length)]; }

    static String gap() { return pick(" ", " ", " ", "  "); }
    static String maybeGap() { return pick("", "", " "); }

    static String number() {
        switch (draw(8)) {
            case 0: return "1000";
            case 1: return "" + draw(1001);
            case 2: return "0";
            case 3: return "00" + draw(100);
            case 4: return "" + 100 * draw(8);
            default: return "" + draw(12);
        }
    }

    static String part(boolean orders, int depth) {
        if (depth > 0 && draw(4) == 0) return "[" + maybeGap() + sum(orders, depth - 1) + maybeGap() + "]";
        if (draw(3) == 0) return number();
        if (!orders) return pick("owner", "visitor", "owes", "owes", "owes", "back", "rooms", "wary", "amount", "age", "day", "mood");
        switch (draw(5)) {
            case 0: return "purse " + draw(7);
            case 1: return "owed " + draw(7) + " " + draw(7);
            default: return pick("day", "debts", "done", "last");
        }
    }

    static String sum(boolean orders, int depth) {
        StringBuilder b = new StringBuilder(part(orders, depth));
        for (int i = draw(3) * draw(2); i > 0; i--) {
            b.append(maybeGap()).append(pick("+", "-", "*", "/", "%")).append(maybeGap()).append(part(orders, depth));
        }
        return b.toString();
    }

    static String test(boolean orders, int depth) {
        switch (draw(depth > 0 ? 6 : 2)) {
            case 2: return "not " + test(orders, depth - 1);
            case 3: return "(" + test(orders, depth - 1) + ")";
            case 4: return test(orders, depth - 1) + gap() + pick("or", "and") + gap() + test(orders, depth - 1);
            default: return sum(orders, depth) + maybeGap() + pick("<", ">", "=") + maybeGap() + sum(orders, depth);
        }
    }

    static String clause(boolean orders, int people) {
        StringBuilder b = new StringBuilder();
        if (orders) {
            String kind = pick("lend", "lend", "repay", "repay", "wait");
            b.append(kind);
            if (!kind.equals("wait")) {
                String[] who = {"" + draw(Math.max(1, people)), "" + draw(Math.max(1, people))};
                if (kind.equals("repay") && !m.s.debts.isEmpty()) {
                    int[] owing = owing();
                    who = new String[] {"" + owing[0], "" + owing[1]};
                }
                for (int i = 0; i < 2; i++) if (draw(20) == 0) who[i] = sum(true, 1);
                b.append(" ").append(who[0]).append(" to ").append(who[1]).append(" of ");
                b.append(draw(8) == 0 ? sum(true, 1) : "" + (1 + draw(40)));
            }
            if (draw(4) == 0) b.append(" times ").append(draw(10) == 0 ? draw(30) : 1 + draw(6));
        } else {
            String kind = pick("depth", "depth", "depth", "grows", "grows", "sells", "bars");
            b.append(kind);
            if (!kind.equals("bars")) b.append(" ").append(draw(3) == 0 ? "owes/" + (1 + draw(60)) : sum(false, 2));
        }
        if (draw(orders ? 4 : 2) == 0) b.append(gap()).append("if").append(gap()).append(test(orders, 3));
        return b.toString();
    }

    static final String[] ORDERS = {
        "repay 0 to 1 of [owed 0 1 + 1] / 2 times 3; wait; lend 1 to 0 of purse 1 / 3 + 1 if owed 0 1 < 40",
        "lend 1 to 2 of 5 times 3 if owed 2 1 < 10; repay 2 to 1 of last if done > 0; wait times 4",
        "lend done to done + 1 of debts * 2 + 1 if purse 0 > 20; repay 2 to 0 of owed 2 0 if owed 2 0 > 0",
        "wait times 3 if day % 3 > 0; lend 0 to 1 of 7 times 20 if debts < 15; repay 1 to 0 of 3 times 2",
    };

    static String text(boolean orders, int people) {
        if (orders && draw(3) == 0) return ORDERS[draw(ORDERS.length)];
        int size = draw(12) == 0 ? 12 + draw(3) : 1 + draw(3);
        StringBuilder b = new StringBuilder();
        for (int i = 0; i < size; i++) {
            if (i > 0) b.append(maybeGap()).append(";").append(maybeGap());
            b.append(size > 6 ? orders ? "wait if day<1" : "depth " + draw(4) : clause(orders, people));
        }
        if (draw(15) == 0) b = new StringBuilder(orders ? "wait if " : "bars if ").append(deepText());
        if (draw(15) == 0) b = new StringBuilder(orders ? "wait if 0<" : "depth ").append(longSum(48 + draw(6)));
        if (draw(6) == 0) spoil(b);
        if (draw(10) == 0) b.append(pick(" ", "  ", ";", " ; ", ")", " 5"));
        return b.length() > 400 ? b.substring(0, 400) : b.toString();
    }

    static String deepText() {
        int round = draw(7), square = draw(7);
        return pick("", "not ", "not not ", "not not not ") + "(".repeat(round) + "1=" + "[".repeat(square) + "1" + "]".repeat(square) + ")".repeat(round);
    }

    static String longSum(int parts) { return "1" + "+1".repeat(parts); }

    static void spoil(StringBuilder b) {
        for (int i = 1 + draw(2); i > 0 && b.length() > 0; i--) {
            int at = draw(b.length());
            switch (draw(4)) {
                case 0: b.deleteCharAt(at); break;
                case 1: b.insert(at, pick("a", "7", "(", "]", ";", " if ", " or ", "not ", "A", "\n", "1001", "=", "" + (char) draw(256))); break;
                case 2: b.setLength(at); break;
                default: b.setCharAt(at, (char) draw(256));
            }
        }
    }

    // ------------------------------------------------------------------ drawn calls

    static DebtDoors x;
    static Model m;
    static StringBuilder log;
    static int wrong = 0;
    static int calls;

    static void due(String call, int got, int want) {
        log.append(call).append(" = ").append(want).append('\n');
        calls++;
        if (got != want && wrong++ < 5) {
            System.out.println("run:\n" + log + "answered " + got + " at the end");
        }
    }

    static int odd() { return pick3(Integer.MIN_VALUE, Integer.MAX_VALUE, draw(40) - 20); }
    static int pick3(int a, int b, int c) { int k = draw(4); return k == 0 ? a : k == 1 ? b : c; }
    static int who() { return draw(25) == 0 ? odd() : draw(Math.max(1, m.s.people.size())); }
    static int which() { return draw(25) == 0 ? odd() : draw(Math.max(1, m.s.debts.size())); }
    static int room() { return draw(25) == 0 ? odd() : 1 + draw(3); }
    static int money() { return draw(20) == 0 ? odd() : draw(8) == 0 ? 9990 + draw(12) : 1 + draw(draw(2) == 0 ? 60 : 400); }
    static int few(int m) { return draw(20) == 0 ? odd() : draw(m); }

    static boolean dense;

    /** A debtor and a creditor that are one of a debt, mostly. */
    static int[] owing() {
        if (m.s.debts.isEmpty() || draw(4) == 0) return new int[] {who(), who()};
        return m.s.debts.get(draw(m.s.debts.size()));
    }

    static void feedText(String t) {
        byte[] bytes = new byte[(t.length() + 19) / 20 * 20];
        for (int i = 0; i < t.length(); i++) bytes[i] = (byte) t.charAt(i);
        for (int at = 0; at < bytes.length; at += 20) {
            int[] n = new int[5];
            for (int i = 0; i < 20; i++) n[i / 4] = n[i / 4] << 8 | bytes[at + i] & 255;
            due("feed(" + Arrays.toString(n) + ")", x.feed(n[0], n[1], n[2], n[3], n[4]), m.feed(n));
        }
        due("end(" + t.length() + ") of \"" + t + "\"", x.end(t.length()), m.end(t.length()));
    }

    static void change() {
        int a = who(), b = who(), c = room(), d = money(), e = which();
        int[] owing = owing();
        switch (dense ? 7 + draw(18) : draw(26)) {
            case 0: case 1: {
                int w = draw(30) == 0 ? odd() : draw(100);
                int purse = draw(3) == 0 ? draw(10000) : d;
                due("person(" + purse + "," + c + "," + w + ")", x.person(purse, c, w), m.person(purse, c, w));
                break;
            }
            case 2: {
                int what = few(3);
                int v = what == 0 ? d : what == 1 ? c : few(100);
                due("put(" + a + "," + what + "," + v + ")", x.put(a, what, v), m.put(a, what, v));
                break;
            }
            case 3: case 4: case 5: due("debt(" + a + "," + b + "," + d + ")", x.debt(a, b, d), m.debt(a, b, d)); break;
            case 6: {
                int what = few(2), v = draw(3) == 0 ? 990 + draw(12) : few(10);
                due("terms(" + what + "," + v + ")", x.terms(what, v), m.terms(what, v));
                break;
            }
            case 7: case 8: case 9: due("lend(" + a + "," + b + "," + d + ")", x.lend(a, b, d), m.lend(a, b, d)); break;
            case 10: case 11: 
                due("repay(" + owing[0] + "," + owing[1] + "," + d + ")", x.repay(owing[0], owing[1], d), m.repay(owing[0], owing[1], d));
                break;
            case 12: due("forgive(" + e + ")", x.forgive(e), m.forgive(e)); break;
            case 13: case 14: due("sell(" + e + "," + a + ")", x.sell(e, a), m.sell(e, a)); break;
            case 15: due("await()", x.await(), m.await()); break;
            case 16: due("clear()", x.clear(), m.clear()); break;
            case 17: case 18: due("undo()", x.undo(), m.undo()); break;
            case 19: {
                int k = few(2);
                if (draw(2) == 0) due("image(" + k + ")", x.image(k), m.image(k));
                else due("back(" + k + ")", x.back(k), m.back(k));
                break;
            }
            case 20: case 21: {
                feedText(text(false, m.s.people.size()));
                due("law()", x.law(), m.law());
                int law = m.s.laws.size() - 1;
                if (draw(2) == 0) due("force(" + law + ")", x.force(law), m.force(law));
                break;
            }
            case 22: {
                int law = draw(3) == 0 ? NONE : few(6);
                due("force(" + law + ")", x.force(law), m.force(law));
                break;
            }
            case 23: case 24:
                feedText(text(true, m.s.people.size()));
                due("orders()", x.orders(), m.orders());
                break;
            default: {
                StringBuilder t = new StringBuilder();
                for (int i = draw(5); i >= 0; i--) {
                    t.append((char) draw(Math.max(1, m.s.people.size() + draw(2)))).append((char) draw(Math.max(1, m.s.people.size())));
                    t.append((char) draw(draw(3) == 0 ? 256 : 2)).append((char) draw(256));
                }
                if (draw(4) == 0) t.setLength(draw(t.length() + 1));
                feedText(t.toString());
                due("row()", x.row(), m.row());
            }
        }
    }

    static void told() {
        int a = who(), b = who(), c = room();
        switch (draw(8)) {
            case 0: case 1: case 2: {
                if (m.s.visits.size() >= 6 && draw(10) > 0) break;
                if (draw(4) > 0) {
                    int[] owing = owing();
                    a = owing[1];
                    b = owing[0];
                    if (draw(2) == 0) c = 1;
                }
                int settle = draw(20) == 0 ? odd() : draw(3) == 0 ? 0 : draw(1000);
                due("visit(" + a + "," + b + "," + c + "," + settle + ")", x.visit(a, b, c, settle), m.visit(a, b, c, settle));
                break;
            }
            case 3: due("cancel()", x.cancel(), m.cancel()); break;
            case 4: due("sweep()", x.sweep(), m.sweep()); break;
            default: {
                int is = draw(20) == 0 ? odd() : draw(2);
                due("scuff(" + a + "," + b + "," + c + "," + is + ")", x.scuff(a, b, c, is), m.scuff(a, b, c, is));
            }
        }
    }

    static void ask() {
        int a = who(), b = who(), c = room(), e = which();
        switch (draw(24)) {
            case 0: { int w = few(3); due("of(" + a + "," + w + ")", x.of(a, w), m.of(a, w)); break; }
            case 1: case 2: { int w = few(6); due("at(" + e + "," + w + ")", x.at(e, w), m.at(e, w)); break; }
            case 3: due("owes(" + a + "," + b + ")", x.owes(a, b), m.owes(a, b)); break;
            case 4: due("blots()", x.blots(), m.blots); break;
            case 5: due("fault()", x.fault(), m.fault); due("stopped()", x.stopped(), m.stopped); break;
            case 6: case 7: due("deep(" + a + "," + b + ")", x.deep(a, b), m.deep(a, b)); break;
            case 8: due("doors(" + a + ")", x.doors(a), m.doors(a)); break;
            case 9: due("need(" + a + "," + b + "," + c + ")", x.need(a, b, c), m.need(a, b, c)); break;
            case 10: { int w = few(8); due("lendings(" + w + ")", x.lendings(w), m.lendings(w)); break; }
            case 11: { int i = few(7) - 1; if (m.s.visits.size() < 7) due("plan(" + i + ")", x.plan(i), m.plan(i)); break; }
            case 12: case 13: {
                int w = few(2);
                if (draw(3) > 0) b = owing()[0];
                due("thief(" + a + "," + b + "," + c + "," + w + ")", x.thief(a, b, c, w), m.thief(a, b, c, w));
                break;
            }
            case 14: if (draw(3) > 0) { a = owing()[0]; b = owing()[1]; } due("shut(" + a + "," + b + "," + c + ")", x.shut(a, b, c), m.shut(a, b, c)); break;
            case 15: due("ban(" + a + ")", x.ban(a), m.ban(a)); break;
            case 16: if (draw(4) == 0) { int w = few(2); due("party(" + w + ")", x.party(w), m.party(w)); } break;
            case 17: { int i = few(4) - 1; due("ring(" + i + ")", x.ring(i), m.ring(i)); break; }
            case 18: { int w = few(2); due("cleared(" + w + ")", x.cleared(w), m.cleared(w)); break; }
            case 19: due("balance(" + a + ")", x.balance(a), m.balance(a)); due("payments()", x.payments(), m.payments()); break;
            case 20: { int i = draw(3) == 0 ? few(400) : NONE; due("secret(" + i + ")", x.secret(i), m.secret(i)); break; }
            case 21: due("denied()", x.denied(), m.denied()); break;
            case 22: {
                int seed = draw(20) == 0 ? odd() : draw(1000002), n = draw(20) == 0 ? odd() : 1 + draw(31);
                due("month(" + seed + "," + n + ")", x.month(seed, n), m.month(seed, n));
                break;
            }
            default: { int w = few(3); due("drawn(" + a + "," + w + ")", x.drawn(a, w), m.drawn(a, w)); }
        }
    }

    static void counts() {
        for (int w = -1; w <= 15; w++) due("count(" + w + ")", x.count(w), m.count(w));
        for (int d = 0; d < m.s.debts.size(); d++) {
            for (int w = 0; w < 4; w++) due("at(" + d + "," + w + ")", x.at(d, w), m.at(d, w));
        }
        for (int p = 0; p < m.s.people.size(); p++) due("of(" + p + ",0)", x.of(p, 0), m.of(p, 0));
    }

    static final String[] LAWS = {
        "grows 7; grows 30 if age > 2 and amount < 50",
        "depth owes/20; grows wary % 40; sells amount / 2 + age",
        "depth owes/9 - back/9; bars if visitor = 2 and owes < 200",
        "sells [amount*3/2] if owes > 100; grows 99 if day % 3 = 0; depth 1 + day % 3 if owes > 0",
        "depth 3 - owes/30; bars if mood > 4 or back > 300",
        "depth owes % 4; sells 1000 - amount; grows owes / 10",
        "grows 5 if owes > back; depth 2 if not (owes < 40 or back = 0); depth 9 if owes / back > 1",
        "sells 5; depth 1 if owes > 60 and owes < 100; depth 0 if owes > 99",
    };

    /** Debts between few, and a law with which much is otherwise. */
    static void begin() {
        for (int i = 3 + draw(10); i > 0; i--) {
            int a = draw(m.s.people.size()), b = draw(m.s.people.size()), d = 1 + draw(draw(3) == 0 ? 300 : 60);
            due("debt(" + a + "," + b + "," + d + ")", x.debt(a, b, d), m.debt(a, b, d));
        }
        maybeLaw();
    }

    /** Visits that are in a row one way or another, with purses that settle only so much. */
    static void planScenario() {
        for (int p = 0; p < m.s.people.size(); p++) {
            int purse = draw(5) == 0 ? 9900 + draw(100) : draw(120);
            due("put(" + p + ",0," + purse + ")", x.put(p, 0, purse), m.put(p, 0, purse));
        }
        for (int i = 6 + draw(6); i > 0; i--) newDebt(draw(7), draw(7), 40 + draw(200));
        maybeLaw();
        for (int i = 2 + draw(5); i > 0; i--) {
            int[] d = owing();
            int deep = m.deep(d[0], d[1]);
            int room = deep > 0 && draw(8) > 0 ? 1 + draw(deep) : 1 + draw(3);
            int settle = draw(4) == 0 ? 999 : draw(150);
            due("visit(" + d[1] + "," + d[0] + "," + room + "," + settle + ")", x.visit(d[1], d[0], room, settle), m.visit(d[1], d[0], room, settle));
        }
        for (int i = -1; i <= m.s.visits.size(); i++) due("plan(" + i + ")", x.plan(i), m.plan(i));
    }

    /** Needs for which purses reach only behind another lending. */
    static void lendingScenario() {
        for (int i = draw(5); i > 0; i--) newDebt(draw(7), draw(7), 1 + draw(250));
        maybeLaw();
        for (int i = 2 + draw(5); i > 0; i--) {
            int a = draw(m.s.people.size()), b = draw(m.s.people.size()), c = 1 + draw(m.s.people.get(b)[1]);
            due("visit(" + a + "," + b + "," + c + ",9)", x.visit(a, b, c, 9), m.visit(a, b, c, 9));
        }
        for (int w = -1; w <= 3 + m.s.visits.size(); w++) due("lendings(" + w + ")", x.lendings(w), m.lendings(w));
    }

    /** A house that owes many. */
    static void thiefScenario() {
        int house = draw(m.s.people.size());
        for (int i = 3 + draw(9); i > 0; i--) newDebt(draw(4) == 0 ? draw(7) : house, draw(7), draw(3) == 0 ? 20 : 5 + draw(80));
        maybeLaw();
        for (int t = 0; t < m.s.people.size(); t++) {
            for (int room = 1; room <= 3; room++) {
                for (int w = 0; w < 2; w++) {
                    due("thief(" + t + "," + house + "," + room + "," + w + ")", x.thief(t, house, room, w), m.thief(t, house, room, w));
                }
            }
            due("shut(" + house + "," + t + ",2)", x.shut(house, t, 2), m.shut(house, t, 2));
        }
    }

    /** Rings cleared one behind the other, and all undone. */
    static void ringScenario() {
        for (int i = 4 + draw(13); i > 0; i--) newDebt(draw(7), draw(7), 1 + draw(draw(2) == 0 ? 4 : 250));
        maybeLaw();
        for (int k = 0; k < 12; k++) {
            for (int i = -1; i < 7; i++) due("ring(" + i + ")", x.ring(i), m.ring(i));
            due("cleared(0)", x.cleared(0), m.cleared(0));
            due("cleared(1)", x.cleared(1), m.cleared(1));
            due("payments()", x.payments(), m.payments());
            due("clear()", x.clear(), m.clear());
        }
        counts();
        for (int k = 0; k < 8; k++) due("undo()", x.undo(), m.undo());
        counts();
    }

    /** Scuffs of which some are so, and secrets by which the others are. */
    static void scuffScenario() {
        for (int i = draw(9); i > 0; i--) newDebt(draw(7), draw(7), 1 + draw(150));
        maybeLaw();
        for (int i = 1 + draw(4); i > 0; i--) {
            int a = draw(m.s.people.size()), b = draw(m.s.people.size()), c = 1 + draw(2);
            int is = a != b && m.s.deep(b, a) >= c ? 1 : 0;
            if (draw(4) == 0) is = 1 - is;
            due("scuff(" + a + "," + b + "," + c + "," + is + ")", x.scuff(a, b, c, is), m.scuff(a, b, c, is));
            due("denied()", x.denied(), m.denied());
            for (int k = -1; k < 5; k++) due("secret(" + k + ")", x.secret(k), m.secret(k));
        }
    }

    static void newDebt(int a, int b, int d) {
        int p = a % m.s.people.size(), q = b % m.s.people.size();
        due("debt(" + p + "," + q + "," + d + ")", x.debt(p, q, d), m.debt(p, q, d));
    }

    static void maybeLaw() {
        if (draw(3) == 0) return;
        feedText(LAWS[draw(LAWS.length)]);
        due("law()", x.law(), m.law());
        due("force(0)", x.force(0), m.force(0));
    }

    static void scenario() {
        switch (draw(5)) {
            case 0: planScenario(); break;
            case 1: lendingScenario(); break;
            case 2: thiefScenario(); break;
            case 3: ringScenario(); break;
            default: scuffScenario();
        }
    }

    static void run(long seed) {
        state = seed * 7919 + 17;
        draw(2);
        x = new DebtDoors();
        m = new Model();
        log = new StringBuilder();
        calls = 0;
        dense = draw(2) == 0;
        int people = dense ? 2 + draw(4) : draw(8);
        for (int p = 0; p < people; p++) {
            int purse = draw(4) == 0 ? 9000 + draw(1000) : draw(500), rooms = 1 + draw(3), wary = draw(100);
            due("person(" + purse + "," + rooms + "," + wary + ")", x.person(purse, rooms, wary), m.person(purse, rooms, wary));
        }
        if (people > 2 && draw(2) == 0) scenario();
        else if (dense) begin();
        for (int round = 0; round < 60 && calls < 480 && wrong == 0; round++) {
            change();
            due("status()", x.status(), m.status);
            if (draw(2) == 0) told();
            for (int i = draw(4); i > 0; i--) ask();
            if (draw(8) == 0) counts();
        }
    }

    public static void main(String[] args) {
        int from = args.length > 0 ? Integer.parseInt(args[0]) : 0;
        int to = args.length > 1 ? Integer.parseInt(args[1]) : 150;
        for (int seed = from; seed < to && wrong == 0; seed++) {
            run(seed);
        }
        System.out.println(wrong == 0 ? "all answers are as the model's" : wrong + " answers are not as the model's");
        if (wrong != 0) System.exit(1);
    }
}
