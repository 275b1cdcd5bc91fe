import java.math.BigInteger;
import java.util.ArrayDeque;
import java.util.ArrayList;
import java.util.Deque;
import java.util.HashMap;
import java.util.LinkedHashMap;
import java.util.List;
import java.util.Map;
import java.util.NoSuchElementException;
import java.util.Random;

/** Random runs of calls; each answer is held against a plain second telling of the document. */
public final class ModelTest {
    private static final int RUNS = 1500;
    private static final int CALLS = 160;

    private final Random random;
    private final DebtMiller x = new DebtMiller();
    private final Model m = new Model();
    private final StringBuilder log = new StringBuilder();
    private boolean alike = true;

    private ModelTest(long seed) {
        random = new Random(seed);
    }

    public static void main(String[] args) {
        int runs = args.length > 0 ? Integer.parseInt(args[0]) : RUNS;
        for (int i = 0; i < runs && Check.wrong() < 5; i++) {
            new ModelTest(i).run();
        }
        Check.end();
    }

    private int any(int least, int greatest) {
        return least + random.nextInt(greatest - least + 1);
    }

    /** Mostly within the bounds, now and then just beyond them, or far. */
    private int near(int least, int greatest) {
        switch (any(0, 60)) {
            case 0: return least - 1;
            case 1: return greatest + 1;
            case 2: return random.nextInt();
            case 3: return least;
            case 4: return greatest;
            default: return greatest < least ? least : any(least, greatest);
        }
    }

    private void run() {
        valleyText();
        for (int i = 0; i < CALLS && alike; i++) {
            int op = any(0, 99);
            if (op < 2) {
                valleyText();
            } else if (op < 6) {
                text("law", spoiled(sum(any(0, 7), 60)));
            } else if (op < 22) {
                text("work", spoiled(steps(any(0, 3), 110)));
            } else if (op < 27) {
                text("book", spoiled(bookText()));
            } else {
                question();
            }
        }
    }

    private void valleyText() {
        StringBuilder b = new StringBuilder();
        int houses = any(0, 12) == 0 ? any(0, 7) : any(2, 6);
        for (int i = 0; i < houses; i++) {
            b.append("house ").append(any(1, 9)).append(' ').append(any(0, 9)).append(';');
        }
        int debts = houses < 2 ? any(0, 30) / 30 : any(0, 10) == 0 ? any(0, 13) : any(3, 12);
        int heaviest = any(0, 1) == 0 ? 30 : 6;
        for (int i = 0; i < debts; i++) {
            int a = any(0, Math.max(0, houses - 1));
            int c = (a + any(1, Math.max(1, houses - 1))) % Math.max(1, houses);
            b.append("debt ").append(a).append(' ').append(c).append(' ').append(any(0, 9)).append(' ')
                .append(any(1, heaviest)).append(';');
            if (any(0, 3) == 0) {
                b.append("flour ").append(any(0, Math.max(0, houses - 1))).append(' ').append(any(0, 99)).append(';');
            }
        }
        if (any(0, 2) > 0) {
            b.append("water ").append(any(0, 99)).append(';');
        }
        if (any(0, 20) == 0) {
            b.append("water1;".repeat(any(20, 60)));
        }
        String s = b.length() > 580 ? b.substring(0, 580) : b.toString();
        text("valley", any(0, 3) == 0 ? spoiled(s) : s);
    }

    private String bookText() {
        StringBuilder b = new StringBuilder();
        int lines = any(0, 3);
        for (int i = 0; i < lines; i++) {
            int house = any(0, Math.max(0, m.houses.size() - 1));
            int sum = 0;
            for (int d = 0; d < m.debts.size(); d++) {
                if (m.debts.get(d)[0] == house && m.s.there[d] && any(0, 1) == 0) {
                    sum += m.flour(m.s, d);
                }
            }
            b.append(house).append(' ').append(any(0, 5) == 0 ? any(0, 999) : sum).append(';');
        }
        return b.toString();
    }

    private String sum(int depth, int room) {
        String s = unit(depth, room);
        int more = any(0, 3);
        for (int i = 0; i < more && s.length() < room; i++) {
            s += blank() + "+-*/%".charAt(any(0, 4)) + blank() + unit(depth, room - s.length());
        }
        return s;
    }

    private String unit(int depth, int room) {
        String[] terms = {"weight", "kind", "age", "pride", "mouths", "owed", "others", "hunger", "debt"};
        if (depth <= 0 || room < 20 || any(0, 2) == 0) {
            return any(0, 2) == 0 ? "" + (any(0, 9) == 0 ? any(0, 1100) : any(0, 20)) : terms[any(0, 8)];
        }
        if (any(0, 1) == 0) {
            return "(" + sum(depth - 1, room - 2) + blank() + ")";
        }
        return (any(0, 1) == 0 ? "least" : "most") + blank() + "[" + sum(depth - 1, room / 2 - 5) + ","
            + sum(depth - 1, room / 2 - 5) + "]";
    }

    private String blank() {
        return " ".repeat(any(0, 4) / 3);
    }

    private String steps(int depth, int room) {
        StringBuilder b = new StringBuilder();
        int many = any(0, 7);
        int d = Math.max(0, m.debts.size() - 1);
        int h = Math.max(0, m.houses.size() - 1);
        for (int i = 0; i < many && b.length() < room - 15; i++) {
            switch (any(0, 7)) {
                case 0: b.append("grind ").append(any(0, d)); break;
                case 1: b.append("grind").append(any(0, d)); break;
                case 2: b.append("forgive ").append(any(0, d)); break;
                case 3: b.append("swell ").append(any(0, d)).append(' ').append(near(1, 30)); break;
                case 4: b.append("give ").append(any(0, h)).append(' ').append(any(0, h)).append(' ').append(near(1, 99)); break;
                case 5: b.append("rain ").append(near(1, 40)); break;
                case 6: b.append("day"); break;
                default:
                    if (depth > 0) {
                        b.append("again ").append(near(0, any(0, 2) == 0 ? 60 : 4)).append(blank()).append("[")
                            .append(steps(any(0, 8) == 0 ? depth : depth - 1, room - b.length() - 15)).append("]");
                    } else {
                        b.append("day");
                    }
            }
            b.append(";").append(blank());
        }
        return b.toString();
    }

    /** Often the text as it is; else with a byte or a piece changed. */
    private String spoiled(String s) {
        if (any(0, 2) > 0) {
            return s;
        }
        String signs = " ;[](),+-*/%019axdhgy\u0000\u00e9";
        StringBuilder b = new StringBuilder(s);
        int changes = any(1, 2);
        for (int i = 0; i < changes; i++) {
            int at = any(0, b.length());
            switch (any(0, 3)) {
                case 0: b.insert(at, signs.charAt(any(0, signs.length() - 1))); break;
                case 1: if (at < b.length()) b.deleteCharAt(at); break;
                case 2: if (at < b.length()) b.setCharAt(at, signs.charAt(any(0, signs.length() - 1))); break;
                default: b.setLength(any(0, b.length())); break;
            }
        }
        return b.toString();
    }

    private void text(String call, String s) {
        int room = call.equals("valley") ? 600 : call.equals("book") ? 60 : 150;
        String cut = s.length() > room ? s.substring(0, room) : s;
        String whole = cut + "\0".repeat((20 - cut.length() % 20) % 20);
        for (int i = 0; i < whole.length(); i += 20) {
            int[] n = new int[5];
            for (int k = 0; k < 20; k++) {
                n[k / 4] = n[k / 4] << 8 | whole.charAt(i + k);
            }
            both("feed", () -> x.feed(n[0], n[1], n[2], n[3], n[4]), () -> m.feed(n));
        }
        int n = any(0, 30) == 0 ? near(0, m.tape.length()) : cut.length();
        String told = call + "(" + n + ") of '" + cut + "'";
        switch (call) {
            case "valley": both(told, () -> x.valley(n), () -> m.valley(n)); break;
            case "law": both(told, () -> x.law(n), () -> m.law(n)); break;
            case "work": both(told, () -> x.work(n), () -> m.work(n)); break;
            default: both(told, () -> x.book(n), () -> m.book(n)); break;
        }
        both("fault()", () -> x.fault(), () -> m.place);
        both("count(1)", () -> x.count(1), () -> m.tape.length());
    }

    private void question() {
        int house = near(0, m.houses.size() - 1);
        int debt = near(0, m.debts.size() - 1);
        int n = near(0, 99);
        int seed = random.nextInt();
        int days = any(0, 1) == 0 ? near(1, 96) : near(1, 5);
        int q = near(0, 16);
        switch (any(0, 33)) {
            case 0: { int w = near(0, 11); both("told " + w, () -> x.told(w), () -> m.told(w)); break; }
            case 1: { int w = near(0, 7); both("house " + house + " " + w, () -> x.house(house, w), () -> m.house(house, w)); break; }
            case 2: { int w = near(0, 6); both("debt " + debt + " " + w, () -> x.debt(debt, w), () -> m.debt(debt, w)); break; }
            case 3: would(); break;
            case 4: both("can " + debt, () -> x.can(debt) ? 1 : 0, () -> m.can(debt)); break;
            case 5: { int w = near(0, 2); both("ahead " + n + " " + w, () -> x.ahead(n, w), () -> m.ahead(n, w)); break; }
            case 6: both("lasts " + house, () -> x.lasts(house), () -> m.lasts(house)); break;
            case 7: { int k = any(0, 2) == 0 ? n : near(0, 20); both("plan " + house + " " + k, () -> x.plan(house, k), () -> m.plan(house, k)); break; }
            case 8: { int w = near(0, 1); both("most " + w, () -> x.most(w), () -> m.most(w)); break; }
            case 9: both("ring " + house, () -> x.ring(house), () -> m.ring(house)); break;
            case 10: both("tangle " + house, () -> x.tangle(house), () -> m.tangle(house)); break;
            case 11: case 12: { int w = near(0, 2); both("ground " + w, () -> x.ground(w), () -> m.ground(w)); break; }
            case 13: case 14: { int w = near(0, 1); both("ask " + w, () -> x.ask(w), () -> m.ask(w)); break; }
            case 15: { int k = near(0, any(0, 3) == 0 ? 999 : 80); both("mix " + k, () -> x.mix(k), () -> m.mix(k)); break; }
            case 16: { int v = near(0, 99); int u = near(0, 99); int w = near(0, 2); both("creditors " + v + " " + u + " " + w, () -> x.creditors(v, u, w), () -> m.creditors(v, u, w)); break; }
            case 17: { int a = near(0, 12); int k = near(0, 13); int w = near(0, 1); both("wheel " + a + " " + k + " " + q + " " + w, () -> x.wheel(a, k, q, w), () -> m.wheel(a, k, q, w)); break; }
            case 18: { int bits = near(0, (1 << m.houses.size()) - 1); int k = near(0, 30); both("share " + house + " " + bits + " " + k, () -> x.share(house, bits, k), () -> m.share(house, bits, k)); break; }
            case 19: { int w = near(0, 1); both("whitest " + w, () -> x.whitest(w), () -> m.whitest(w)); break; }
            case 20: { int w = near(0, 1); both("hungriest " + w, () -> x.hungriest(w), () -> m.hungriest(w)); break; }
            case 21: both("net " + house, () -> x.net(house), () -> m.net(house)); break;
            case 22: { int w = near(0, 1); both("even " + w, () -> x.even(w), () -> m.even(w)); break; }
            case 23: both("honest", () -> x.honest(), () -> m.honest()); break;
            case 24: { int k = near(0, 9); both("kind " + k, () -> x.kind(k), () -> m.kind(k)); break; }
            case 25: { int w = near(0, 1); both("oldest " + w, () -> x.oldest(w), () -> m.oldest(w)); break; }
            case 26: both("thirst", () -> x.thirst(), () -> m.thirst()); break;
            case 27: { int w = near(0, 3); both("year " + seed + " " + days + " " + q + " " + w, () -> x.year(seed, days, q, w), () -> m.year(seed, days, q, w)); break; }
            case 28: { int many = near(1, 20); int w = near(0, 2); both("span " + seed + " " + many + " " + days + " " + q + " " + w + " " + house, () -> x.span(seed, many, days, q, w, house), () -> m.span(seed, many, days, q, w, house)); break; }
            case 29: both("image", () -> x.image(), () -> m.image()); break;
            case 30: both("restore", () -> x.restore(), () -> m.restore()); break;
            case 31: both("undo", () -> x.undo(), () -> m.undo()); break;
            case 32: { int w = near(0, 1); both("status " + w, () -> x.status(w), () -> m.status(w)); break; }
            default: { int w = near(0, 2); both("count " + w, () -> x.count(w), () -> m.count(w)); break; }
        }
    }

    private void would() {
        int[] least = {1, 0, 0, 0, 1, 0, 0, 0, 0};
        int[] most = {60, 9, 999, 9, 9, 999, 11, 99, 11};
        int[] t = new int[9];
        for (int i = 0; i < 9; i++) {
            t[i] = any(0, 3) == 0 ? near(least[i], most[i]) : any(least[i], most[i]);
        }
        both("would", () -> x.would(t[0], t[1], t[2], t[3], t[4], t[5], t[6], t[7], t[8]), () -> m.would(t, least, most));
    }

    private void both(String call, Check.Call one, Check.Call other) {
        String got = outcome(one, false);
        String want = outcome(other, true);
        log.append(call).append(" -> ").append(want).append('\n');
        if (!got.equals(want)) {
            alike = false;
            Check.tell(log + "but answered " + got);
        }
    }

    private String outcome(Check.Call call, boolean model) {
        try {
            return "" + call.answer();
        } catch (IllegalArgumentException e) {
            m.wrong += model ? 1 : 0;
            return "IllegalArgumentException";
        } catch (NoSuchElementException e) {
            m.missing += model ? 1 : 0;
            return "NoSuchElementException";
        } catch (RuntimeException e) {
            return "" + e;
        }
    }

    private static final class Fault extends RuntimeException {
        private static final long serialVersionUID = 1L;
        final int reason;
        final int place;

        Fault(int reason, int place) {
            this.reason = reason;
            this.place = place;
        }
    }

    private static final class Token {
        final char sort;
        final String text;
        final int place;

        Token(char sort, String text, int place) {
            this.sort = sort;
            this.text = text;
            this.place = place;
        }
    }

    private static final class State {
        int day;
        int water;
        boolean[] there;
        int[] weight;
        int[] age;
        int[] crock;
        int[] hunger;
        int[] came;

        State copy() {
            State c = new State();
            c.day = day;
            c.water = water;
            c.there = there.clone();
            c.weight = weight.clone();
            c.age = age.clone();
            c.crock = crock.clone();
            c.hunger = hunger.clone();
            c.came = came.clone();
            return c;
        }
    }

    /** The document told again, as plainly as can be: tokens, maps, copies of the whole state, all sets tried. */
    private static final class Model {
        private static final String USUAL = "weight * 2 - kind + age / 3";
        final StringBuilder tape = new StringBuilder();
        List<int[]> houses = new ArrayList<>();
        List<int[]> debts = new ArrayList<>();
        List<Token> law = tokens(USUAL);
        Map<Integer, Integer> book = new LinkedHashMap<>();
        State s = new State();
        Deque<State> works = new ArrayDeque<>();
        List<State> images = new ArrayList<>();
        List<Deque<State>> imageWorks = new ArrayList<>();
        int place = -1;
        int refused = 0;
        int missing = 0;
        int wrong = 0;
        private List<Token> tokens;
        private int at;

        Model() {
            start(new HashMap<>(), 20, new ArrayList<>());
        }

        private void start(Map<Integer, Integer> flour, int water, List<Integer> weights) {
            s = new State();
            s.water = water;
            s.there = new boolean[debts.size()];
            s.weight = new int[debts.size()];
            s.age = new int[debts.size()];
            s.crock = new int[houses.size()];
            s.hunger = new int[houses.size()];
            s.came = new int[houses.size()];
            for (int d = 0; d < debts.size(); d++) {
                s.there[d] = true;
                s.weight[d] = weights.get(d);
            }
            flour.forEach((h, f) -> s.crock[h] = f);
        }

        static List<Token> tokens(String text) {
            List<Token> list = new ArrayList<>();
            int i = 0;
            while (i < text.length()) {
                int from = i;
                char c = text.charAt(i);
                if (c == ' ') {
                    i++;
                    continue;
                }
                if (c >= '0' && c <= '9') {
                    while (i < text.length() && text.charAt(i) >= '0' && text.charAt(i) <= '9') i++;
                    list.add(new Token('n', text.substring(from, i), from));
                } else if (c >= 'a' && c <= 'z') {
                    while (i < text.length() && text.charAt(i) >= 'a' && text.charAt(i) <= 'z') i++;
                    list.add(new Token('w', text.substring(from, i), from));
                } else {
                    i++;
                    list.add(new Token('s', text.substring(from, i), from));
                }
            }
            list.add(new Token('e', "", text.length()));
            return list;
        }

        private Token peek() {
            return tokens.get(Math.min(at, tokens.size() - 1));
        }

        private int number(int least, int greatest) {
            Token t = peek();
            if (t.sort != 'n') throw new Fault(1, t.place);
            BigInteger v = new BigInteger(t.text);
            if (v.compareTo(BigInteger.valueOf(least)) < 0 || v.compareTo(BigInteger.valueOf(greatest)) > 0) throw new Fault(2, t.place);
            at++;
            return v.intValue();
        }

        private void sign(String sign) {
            if (peek().sort != 's' || !peek().text.equals(sign)) throw new Fault(1, peek().place);
            at++;
        }

        private boolean is(String text) {
            return peek().sort != 'e' && peek().text.equals(text);
        }

        private void need(boolean ok) {
            if (!ok) throw new IllegalArgumentException();
        }

        private String take(int n, int most) {
            need(n >= 0 && n <= most && n <= tape.length());
            String text = tape.substring(0, n);
            tape.setLength(0);
            place = -1;
            return text;
        }

        int feed(int[] n) {
            if (tape.length() + 20 > 600) return -1;
            for (int v : n) {
                for (int k = 3; k >= 0; k--) tape.append((char) (v >> 8 * k & 255));
            }
            return tape.length();
        }

        private int faulty(Fault f) {
            place = f.place;
            return f.reason - 10;
        }

        int valley(int n) {
            tokens = null;
            String text = take(n, 600);
            List<int[]> hs = new ArrayList<>();
            List<int[]> ds = new ArrayList<>();
            List<Integer> ws = new ArrayList<>();
            Map<Integer, Integer> flour = new HashMap<>();
            int water = 20;
            try {
                tokens = tokens(text);
                at = 0;
                for (int clauses = 1; peek().sort != 'e'; clauses++) {
                    Token t = peek();
                    if (t.sort != 'w' || !List.of("house", "debt", "flour", "water").contains(t.text)) throw new Fault(1, t.place);
                    if (clauses > 60 || t.text.equals("house") && hs.size() == 6 || t.text.equals("debt") && ds.size() == 12) {
                        throw new Fault(3, t.place);
                    }
                    at++;
                    if (t.text.equals("house")) {
                        int mouths = number(1, 9);
                        hs.add(new int[] {mouths, number(0, 9)});
                    } else if (t.text.equals("debt")) {
                        int a = number(0, hs.size() - 1);
                        int where = peek().place;
                        int b = number(0, hs.size() - 1);
                        if (a == b) throw new Fault(2, where);
                        ds.add(new int[] {a, b, number(0, 9)});
                        ws.add(number(1, 30));
                    } else if (t.text.equals("flour")) {
                        int a = number(0, hs.size() - 1);
                        flour.put(a, number(0, 99));
                    } else {
                        water = number(0, 99);
                    }
                    sign(";");
                }
            } catch (Fault f) {
                return faulty(f);
            }
            houses = hs;
            debts = ds;
            law = tokens(USUAL);
            book = new LinkedHashMap<>();
            works.clear();
            images.clear();
            imageWorks.clear();
            refused = 0;
            start(flour, water, ws);
            return ds.size();
        }

        int law(int n) {
            String text = take(n, 150);
            try {
                tokens = tokens(text);
                at = 0;
                value(new HashMap<>(), 0);
                if (peek().sort != 'e') throw new Fault(1, peek().place);
            } catch (Fault f) {
                return faulty(f);
            }
            law = tokens(text);
            return 1;
        }

        private int value(Map<String, Integer> terms, int open) {
            int v = product(terms, open);
            while (is("+") || is("-")) {
                boolean plus = is("+");
                at++;
                int w = product(terms, open);
                v = plus ? v + w : v - w;
            }
            return v;
        }

        private int product(Map<String, Integer> terms, int open) {
            int v = unit(terms, open);
            while (is("*") || is("/") || is("%")) {
                String op = peek().text;
                at++;
                long w = unit(terms, open);
                v = op.equals("*") ? (int) (v * w) : w == 0 ? 0 : op.equals("/") ? (int) (v / w) : (int) (v % w);
            }
            return v;
        }

        private int unit(Map<String, Integer> terms, int open) {
            Token t = peek();
            if (t.sort == 'n') return number(0, 999);
            if (List.of("weight", "kind", "age", "pride", "mouths", "owed", "others", "hunger", "debt").contains(t.text)) {
                at++;
                return terms.getOrDefault(t.text, 1);
            }
            if (!List.of("(", "least", "most").contains(t.text)) throw new Fault(1, t.place);
            if (open == 6) throw new Fault(3, t.place);
            at++;
            if (t.text.equals("(")) {
                int v = value(terms, open + 1);
                sign(")");
                return v;
            }
            sign("[");
            int v = value(terms, open + 1);
            sign(",");
            int w = value(terms, open + 1);
            sign("]");
            return t.text.equals("least") ? Math.min(v, w) : Math.max(v, w);
        }

        private int flourBy(Map<String, Integer> terms) {
            tokens = law;
            at = 0;
            return Math.min(99, Math.max(0, value(terms, 0)));
        }

        int flour(State st, int d) {
            if (!st.there[d]) return 0;
            int a = debts.get(d)[0];
            int b = debts.get(d)[1];
            int owed = 0;
            int others = 0;
            for (int e = 0; e < debts.size(); e++) {
                if (!st.there[e]) continue;
                if (debts.get(e)[0] == b && debts.get(e)[1] == a) owed += st.weight[e];
                if (e != d && debts.get(e)[0] == a) others++;
            }
            Map<String, Integer> terms = new HashMap<>();
            terms.put("weight", st.weight[d]);
            terms.put("kind", debts.get(d)[2]);
            terms.put("age", st.age[d]);
            terms.put("pride", houses.get(a)[1]);
            terms.put("mouths", houses.get(a)[0]);
            terms.put("owed", owed);
            terms.put("others", others);
            terms.put("hunger", st.hunger[a]);
            terms.put("debt", d);
            return flourBy(terms);
        }

        private int drinks(State st, int d) {
            return st.there[d] ? 1 + st.weight[d] / 5 : 0;
        }

        private abstract static class Step {
            abstract void run(Model m, int[] counts);
        }

        private List<Step> steps(int open) {
            List<Step> list = new ArrayList<>();
            while (open == 0 ? peek().sort != 'e' : !is("]")) {
                Token t = peek();
                List<String> words = List.of("grind", "forgive", "swell", "give", "rain", "day", "again");
                if (t.sort != 'w' || !words.contains(t.text)) throw new Fault(1, t.place);
                if (t.text.equals("again") && open == 6) throw new Fault(3, t.place);
                at++;
                if (t.text.equals("again")) {
                    int times = number(0, 60);
                    sign("[");
                    List<Step> body = steps(open + 1);
                    sign("]");
                    list.add(new Step() {
                        void run(Model m, int[] counts) {
                            if (counts[0]++ >= 200) return;
                            for (int i = 0; i < times; i++) {
                                for (Step step : body) step.run(m, counts);
                            }
                        }
                    });
                } else {
                    int[] a = new int[3];
                    if (words.indexOf(t.text) < 3) a[0] = number(0, debts.size() - 1);
                    if (t.text.equals("swell")) a[1] = number(1, 30);
                    if (t.text.equals("give")) {
                        a[0] = number(0, houses.size() - 1);
                        a[1] = number(0, houses.size() - 1);
                        a[2] = number(1, 99);
                    }
                    if (t.text.equals("rain")) a[0] = number(1, 40);
                    list.add(new Step() {
                        void run(Model m, int[] counts) {
                            if (counts[0]++ < 200) counts[m.perform(m.s, t.text, a) ? 1 : 2]++;
                        }
                    });
                }
                sign(";");
            }
            return list;
        }

        private boolean perform(State st, String step, int[] a) {
            switch (step) {
                case "grind":
                    if (!st.there[a[0]] || drinks(st, a[0]) > st.water) return false;
                    int f = flour(st, a[0]);
                    int house = debts.get(a[0])[0];
                    st.crock[house] = Math.min(999, st.crock[house] + f);
                    st.came[house] += f;
                    st.water -= drinks(st, a[0]);
                    st.there[a[0]] = false;
                    return true;
                case "forgive":
                    if (!st.there[a[0]]) return false;
                    st.there[a[0]] = false;
                    return true;
                case "swell":
                    if (!st.there[a[0]] || st.weight[a[0]] == 60) return false;
                    st.weight[a[0]] = Math.min(60, st.weight[a[0]] + a[1]);
                    return true;
                case "give":
                    if (a[0] == a[1] || st.crock[a[0]] < a[2]) return false;
                    st.crock[a[0]] -= a[2];
                    st.crock[a[1]] = Math.min(999, st.crock[a[1]] + a[2]);
                    return true;
                case "rain":
                    if (st.water == 99) return false;
                    st.water = Math.min(99, st.water + a[0]);
                    return true;
                default:
                    if (st.day == 400) return false;
                    pass(st);
                    return true;
            }
        }

        private void pass(State st) {
            for (int h = 0; h < houses.size(); h++) {
                int eats = Math.min(houses.get(h)[0], st.crock[h]);
                st.crock[h] -= eats;
                st.hunger[h] = eats == houses.get(h)[0] ? 0 : Math.min(99, st.hunger[h] + houses.get(h)[0] - eats);
            }
            for (int d = 0; d < debts.size(); d++) {
                if (st.there[d]) st.age[d]++;
            }
            st.day++;
        }

        int work(int n) {
            need(n >= 0 && n <= 150 && n <= tape.length());
            String text = take(n, 150);
            if (works.size() == 16) return -20;
            List<Step> list;
            try {
                tokens = tokens(text);
                at = 0;
                list = steps(0);
            } catch (Fault f) {
                return faulty(f);
            }
            works.push(s.copy());
            int[] counts = new int[3];
            for (Step step : list) step.run(this, counts);
            refused = counts[2];
            return counts[1];
        }

        int book(int n) {
            String text = take(n, 60);
            Map<Integer, Integer> lines = new LinkedHashMap<>();
            try {
                tokens = tokens(text);
                at = 0;
                while (peek().sort != 'e') {
                    int where = peek().place;
                    int a = number(0, houses.size() - 1);
                    if (lines.containsKey(a)) throw new Fault(2, where);
                    lines.put(a, number(0, 999));
                    sign(";");
                }
            } catch (Fault f) {
                return faulty(f);
            }
            book = lines;
            return lines.size();
        }

        int undo() {
            if (works.isEmpty()) return -1;
            s = works.pop();
            refused = 0;
            return works.size();
        }

        int image() {
            if (images.size() == 3) return -1;
            images.add(s.copy());
            Deque<State> kept = new ArrayDeque<>();
            for (State st : works) kept.addLast(st.copy());
            imageWorks.add(kept);
            return images.size();
        }

        int restore() {
            if (images.isEmpty()) return -1;
            s = images.remove(images.size() - 1);
            works = imageWorks.remove(imageWorks.size() - 1);
            refused = 0;
            return images.size();
        }

        private int bitsThere(State st) {
            int bits = 0;
            for (int d = 0; d < debts.size(); d++) if (st.there[d]) bits |= 1 << d;
            return bits;
        }

        private int bitsHungry(State st) {
            int bits = 0;
            for (int h = 0; h < houses.size(); h++) if (st.hunger[h] > 0) bits |= 1 << h;
            return bits;
        }

        private static int total(int[] row) {
            int sum = 0;
            for (int v : row) sum += v;
            return sum;
        }

        int told(int what) {
            need(what >= 0 && what < 12);
            int weights = 0;
            int flours = 0;
            int grindable = 0;
            for (int d = 0; d < debts.size(); d++) {
                weights += s.there[d] ? s.weight[d] : 0;
                flours += flour(s, d);
                grindable |= s.there[d] && drinks(s, d) <= s.water ? 1 << d : 0;
            }
            return new int[] {houses.size(), debts.size(), s.day, s.water, bitsThere(s), bitsHungry(s), total(s.crock),
                weights, flours, book.size(), refused, grindable}[what];
        }

        private void house(int h) {
            if (h < 0 || h >= houses.size()) throw new NoSuchElementException();
        }

        private void debt(int d) {
            if (d < 0 || d >= debts.size()) throw new NoSuchElementException();
        }

        private int between(int a, int b) {
            int sum = 0;
            for (int d = 0; d < debts.size(); d++) {
                int[] e = debts.get(d);
                if (s.there[d] && (a < 0 || e[0] == a) && (b < 0 || e[1] == b)) sum += s.weight[d];
            }
            return sum;
        }

        private int debtsOf(int h) {
            int bits = 0;
            for (int d = 0; d < debts.size(); d++) if (s.there[d] && debts.get(d)[0] == h) bits |= 1 << d;
            return bits;
        }

        int house(int h, int what) {
            house(h);
            need(what >= 0 && what < 8);
            return new int[] {houses.get(h)[0], houses.get(h)[1], s.crock[h], s.hunger[h], debtsOf(h), between(h, -1),
                between(-1, h), s.came[h]}[what];
        }

        int debt(int d, int what) {
            debt(d);
            need(what >= 0 && what < 7);
            int[] e = debts.get(d);
            int one = s.there[d] ? 1 : 0;
            return new int[] {e[0], e[1], e[2], one * s.weight[d], one * s.age[d], flour(s, d), drinks(s, d)}[what];
        }

        int would(int[] t, int[] least, int[] most) {
            String[] names = {"weight", "kind", "age", "pride", "mouths", "owed", "others", "hunger", "debt"};
            Map<String, Integer> terms = new HashMap<>();
            for (int i = 0; i < 9; i++) {
                need(t[i] >= least[i] && t[i] <= most[i]);
                terms.put(names[i], t[i]);
            }
            return flourBy(terms);
        }

        int can(int d) {
            debt(d);
            return s.there[d] && drinks(s, d) <= s.water ? 1 : 0;
        }

        int ahead(int n, int what) {
            need(n >= 0 && n <= 99 && what >= 0 && what <= 2);
            State st = s.copy();
            for (int i = 0; i < n; i++) pass(st);
            return new int[] {total(st.crock), bitsHungry(st), total(st.hunger)}[what];
        }

        int lasts(int h) {
            house(h);
            State st = s.copy();
            for (int days = 0; days < 99; days++) {
                if (st.crock[h] < houses.get(h)[0]) return days;
                pass(st);
            }
            return 99;
        }

        private int[] sumsOf(int set) {
            int[] sums = new int[2 + houses.size()];
            for (int d = 0; d < debts.size(); d++) {
                if ((set >> d & 1) != 0) {
                    sums[0] += flours[d];
                    sums[1] += drinks(s, d);
                    sums[2 + debts.get(d)[0]] += flours[d];
                }
            }
            return sums;
        }

        private int[] flours;

        private List<Integer> sets(int all) {
            flours = new int[debts.size()];
            for (int d = 0; d < debts.size(); d++) flours[d] = flour(s, d);
            List<Integer> list = new ArrayList<>();
            for (int set = 0; set < 1 << debts.size(); set++) if ((set & ~all) == 0) list.add(set);
            return list;
        }

        int plan(int h, int n) {
            house(h);
            need(n >= 0 && n <= 99);
            int best = -1;
            for (int set : sets(debtsOf(h))) {
                int[] sums = sumsOf(set);
                boolean fits = sums[1] <= s.water && sums[0] + s.crock[h] >= houses.get(h)[0] * n;
                if (fits && (best < 0 || Integer.bitCount(set) < Integer.bitCount(best))) best = set;
            }
            return best;
        }

        int most(int what) {
            need(what == 0 || what == 1);
            int best = 0;
            int most = 0;
            for (int set : sets(bitsThere(s))) {
                int[] sums = sumsOf(set);
                if (sums[1] <= s.water && (sums[0] > most || sums[0] == most && Integer.bitCount(set) < Integer.bitCount(best))) {
                    best = set;
                    most = sums[0];
                }
            }
            return what == 0 ? most : best;
        }

        private int back(int from, int home, int seen) {
            int best = 99;
            for (int d = 0; d < debts.size(); d++) {
                int to = debts.get(d)[1];
                if (!s.there[d] || debts.get(d)[0] != from) continue;
                if (to == home) return 1;
                if ((seen >> to & 1) == 0) best = Math.min(best, 1 + back(to, home, seen | 1 << to));
            }
            return best;
        }

        int ring(int h) {
            house(h);
            int length = back(h, h, 1 << h);
            return length >= 99 ? -1 : length;
        }

        private int visit(int h, int seen) {
            int bits = seen | 1 << h;
            for (int d = 0; d < debts.size(); d++) {
                int to = debts.get(d)[1];
                if (s.there[d] && debts.get(d)[0] == h && (bits >> to & 1) == 0) bits = visit(to, bits);
            }
            return bits;
        }

        int tangle(int h) {
            house(h);
            return visit(h, 0);
        }

        private List<Integer> fitting() {
            List<Integer> list = new ArrayList<>();
            for (int set : sets(bitsThere(s))) {
                int[] sums = sumsOf(set);
                boolean fits = true;
                for (Map.Entry<Integer, Integer> line : book.entrySet()) fits &= sums[2 + line.getKey()] == line.getValue();
                if (fits) list.add(set);
            }
            return list;
        }

        int ground(int what) {
            need(what >= 0 && what <= 2);
            List<Integer> list = fitting();
            int sure = -1;
            for (int set : list) sure &= set;
            return what == 0 ? list.size() : list.isEmpty() ? (what == 1 ? -1 : 0) : what == 1 ? list.get(0) : sure;
        }

        int ask(int what) {
            need(what == 0 || what == 1);
            int best = -1;
            int left = -1;
            List<Integer> list = fitting();
            for (int h = 0; h < houses.size(); h++) {
                if (book.containsKey(h)) continue;
                Map<Integer, Integer> by = new HashMap<>();
                int worst = 0;
                for (int set : list) worst = Math.max(worst, by.merge(sumsOf(set)[2 + h], 1, Integer::sum));
                if (best < 0 || worst < left) {
                    best = h;
                    left = worst;
                }
            }
            return what == 0 ? best : left;
        }

        int mix(int n) {
            need(n >= 0 && n <= 999);
            int ways = 0;
            for (int set : sets(bitsThere(s))) ways += sumsOf(set)[0] == n ? 1 : 0;
            return ways;
        }

        int creditors(int v, int w, int what) {
            need(v >= 0 && v <= 99 && w >= 0 && w <= 99 && what >= 0 && what <= 2);
            int[][] mine = {{v / 2, v}, {w, w}};
            List<int[]> rests = new ArrayList<>();
            for (int a = 0; a < 2; a++) {
                for (int b = 0; b < 2; b++) {
                    if (mine[1 - a][b] <= mine[a][b] && mine[1 - b][a] <= mine[b][a]) rests.add(new int[] {10 * a + b, mine[a][b] + mine[b][a]});
                }
            }
            return what == 0 ? rests.size() : rests.isEmpty() ? (what == 1 ? -1 : 0) : rests.get(0)[what - 1];
        }

        long wheel(int n, int k, int q, int part) {
            need(n >= 0 && n <= 12 && k >= 0 && k <= 13 && q >= 0 && q <= 16 && (part == 0 || part == 1));
            BigInteger[] by = new BigInteger[n + 1];
            java.util.Arrays.fill(by, BigInteger.ZERO);
            by[0] = BigInteger.ONE;
            for (int night = 0; night < n; night++) {
                for (int t = night + 1; t >= 0; t--) {
                    BigInteger still = by[t].multiply(BigInteger.valueOf(16 - q));
                    by[t] = t == 0 ? still : still.add(by[t - 1].multiply(BigInteger.valueOf(q)));
                }
            }
            BigInteger above = BigInteger.ZERO;
            for (int t = k; t <= n; t++) above = above.add(by[t]);
            BigInteger below = BigInteger.valueOf(16).pow(n);
            BigInteger common = above.gcd(below);
            return (part == 0 ? above : below).divide(common).longValueExact();
        }

        int share(int h, int bits, int n) {
            house(h);
            need(bits >= 0 && bits < 1 << houses.size() && n >= 0 && n <= 99);
            if ((bits >> h & 1) == 0) return 0;
            int[] got = new int[houses.size()];
            for (int left = n;;) {
                List<Integer> wanting = new ArrayList<>();
                for (int i = 0; i < got.length; i++) if ((bits >> i & 1) != 0 && got[i] < houses.get(i)[0]) wanting.add(i);
                if (wanting.isEmpty() || wanting.size() > left) return got[h];
                for (int i : wanting) got[i]++;
                left -= wanting.size();
            }
        }

        int whitest(int what) {
            need(what == 0 || what == 1);
            int best = -1;
            for (int d = 0; d < debts.size(); d++) {
                if (s.there[d] && (best < 0 || flour(s, d) > flour(s, best))) best = d;
            }
            return best < 0 || what == 0 ? best : flour(s, best);
        }

        int hungriest(int what) {
            need(what == 0 || what == 1);
            int best = -1;
            for (int h = 0; h < houses.size(); h++) {
                if (s.hunger[h] > 0 && (best < 0 || s.hunger[h] > s.hunger[best])) best = h;
            }
            return best < 0 || what == 0 ? best : s.hunger[best];
        }

        int net(int h) {
            house(h);
            return between(-1, h) - between(h, -1);
        }

        int even(int what) {
            need(what == 0 || what == 1);
            List<Integer> pairs = new ArrayList<>();
            for (int a = 0; a < houses.size(); a++) {
                for (int b = a + 1; b < houses.size(); b++) {
                    if (between(a, b) > 0 && between(a, b) == between(b, a)) pairs.add(10 * a + b);
                }
            }
            return what == 0 ? pairs.size() : pairs.isEmpty() ? -1 : pairs.get(0);
        }

        int honest() {
            int bits = 0;
            for (int h = 0; h < houses.size(); h++) if (between(h, -1) == 0) bits |= 1 << h;
            return bits;
        }

        int kind(int k) {
            need(k >= 0 && k <= 9);
            int bits = 0;
            for (int d = 0; d < debts.size(); d++) if (s.there[d] && debts.get(d)[2] == k) bits |= 1 << d;
            return bits;
        }

        int oldest(int what) {
            need(what == 0 || what == 1);
            int best = -1;
            for (int d = 0; d < debts.size(); d++) {
                if (s.there[d] && (best < 0 || s.age[d] > s.age[best])) best = d;
            }
            return best < 0 || what == 0 ? best : s.age[best];
        }

        int thirst() {
            int sum = 0;
            for (int d = 0; d < debts.size(); d++) sum += drinks(s, d);
            return sum;
        }

        private State lived;
        private int milled;

        private void live(int seed, int days, int q) {
            lived = s.copy();
            int[] row = {seed};
            int before = total(lived.came);
            for (int i = 0; i < days; i++) {
                if (!debts.isEmpty()) {
                    perform(lived, "grind", new int[] {draw(row) % debts.size()});
                    if (draw(row) % 16 < q) perform(lived, "rain", new int[] {5});
                    perform(lived, "swell", new int[] {draw(row) % debts.size(), 3});
                }
                pass(lived);
            }
            milled = total(lived.came) - before;
        }

        private static int draw(int[] row) {
            long next = (row[0] & 0xFFFFFFFFL) * 1103515245L + 12345L;
            row[0] = (int) next;
            return (int) (next / 65536 & 32767);
        }

        int year(int seed, int days, int q, int what) {
            need(days >= 1 && days <= 96 && q >= 0 && q <= 16 && what >= 0 && what <= 3);
            live(seed, days, q);
            return new int[] {milled, bitsHungry(lived), lived.water, bitsThere(lived)}[what];
        }

        int span(int seed, int many, int days, int q, int what, int h) {
            need(many >= 1 && many <= 20 && days >= 1 && days <= 96 && q >= 0 && q <= 16 && what >= 0 && what <= 2);
            need(h >= 0 && h < houses.size());
            List<Integer> all = new ArrayList<>();
            int hungry = 0;
            for (int i = 0; i < many; i++) {
                live(seed + i, days, q);
                all.add(milled);
                hungry += lived.hunger[h] > 0 ? 1 : 0;
            }
            return what == 2 ? hungry : what == 0 ? java.util.Collections.min(all) : java.util.Collections.max(all);
        }

        int status(int what) {
            return what == 0 ? missing : what == 1 ? wrong : -1;
        }

        int count(int what) {
            return what == 0 ? images.size() : what == 1 ? tape.length() : what == 2 ? works.size() : -1;
        }
    }
}
