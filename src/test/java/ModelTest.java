import java.util.ArrayDeque;
import java.util.ArrayList;
import java.util.Arrays;
import java.util.Deque;
import java.util.HashMap;
import java.util.List;
import java.util.Map;
import java.util.NoSuchElementException;
import java.util.Random;
import java.util.TreeSet;
import java.util.function.IntUnaryOperator;

/** Random runs against a plain model of the document, which tries every row and shares no code with the class. */
public final class ModelTest {
    private static int wrong = 0;

    public static void main(String[] args) {
        int runs = args.length > 0 ? Integer.parseInt(args[0]) : 800;
        long from = args.length > 1 ? Long.parseLong(args[1]) : 1;
        int calls = 0;
        for (int i = 0; i < runs && wrong < 20; i++) {
            calls += new Run(from + i).go();
        }
        System.out.println(runs + " runs, " + calls + " calls, " + wrong + " answers are not as due");
        if (wrong != 0) {
            System.exit(1);
        }
    }

    /** One object and one model through up to 512 calls. */
    private static final class Run {
        final long seed;
        final Random r;
        final ArmchairHouse x = new ArmchairHouse();
        final Model m = new Model();
        final Texts texts;
        final List<String> told = new ArrayList<>();
        int calls = 0;

        Run(long seed) {
            this.seed = seed;
            this.r = new Random(seed);
            this.texts = new Texts(r);
        }

        void due(String call, int got, int want) {
            calls++;
            told.add(call + " = " + got);
            if (got != want) {
                wrong++;
                System.out.println("seed " + seed + ": " + call + " answered " + got + ", the model has " + want);
                int n = told.size();
                for (String line : told.subList(Math.max(0, n - 12), n)) {
                    System.out.println("      " + line);
                }
            }
        }

        int go() {
            if (r.nextInt(8) != 0) {
                tell(texts.house(r.nextInt(12) == 0), 0);
            }
            while (calls < 440 && wrong < 20) {
                act();
            }
            return calls;
        }

        void tell(String text, int sort) {
            if (calls > 470) {
                return;
            }
            due("end(0)", x.end(0) ? 1 : 0, m.end(0) ? 1 : 0);
            for (int i = 0; i < text.length(); i += 20) {
                feed(text.substring(i, Math.min(text.length(), i + 20)));
            }
            due("fault(" + sort + ") of '" + text + "'", x.fault(sort), m.fault(sort));
            due("text(" + sort + ")", x.text(sort), m.text(sort));
        }

        void feed(String part) {
            int[] five = new int[5];
            int at = 0;
            for (int i = 0; i < part.length(); i++) {
                // now and then a gap of 0 bytes, which are left out
                if (part.length() < 15 && r.nextInt(9) == 0) {
                    at++;
                }
                if (at < 20) {
                    five[at / 4] |= part.charAt(i) << 24 - 8 * (at % 4);
                    at++;
                }
            }
            due("feed(" + Arrays.toString(five) + ")", x.feed(five[0], five[1], five[2], five[3], five[4]), m.feed(five));
        }

        /** Mostly within 0 .. below - 1. */
        int pick(int below) {
            int way = r.nextInt(24);
            if (way == 0) {
                return below;
            }
            if (way == 1) {
                return -1;
            }
            if (way == 2) {
                int[] odd = {-2, 1000000, Integer.MAX_VALUE, Integer.MIN_VALUE, 6, 10, 99, 100, 31, 32};
                return odd[r.nextInt(odd.length)];
            }
            return r.nextInt(Math.max(1, below));
        }

        int chairs() {
            return Math.max(1, m.count(0));
        }

        int sitters() {
            return Math.max(1, m.count(1));
        }

        int plays() {
            return Math.max(1, m.count(2));
        }

        void act() {
            int what = r.nextInt(60);
            if (what < 3) {
                tell(texts.law(), 1);
            } else if (what == 3) {
                tell(texts.season(), 2);
            } else if (what == 4 && r.nextInt(5) == 0) {
                tell(texts.house(false), 0);
            } else if (what == 5) {
                oddTape();
            } else if (what < 14) {
                asks();
            } else if (what < 30) {
                hand();
            } else if (what < 36) {
                small();
            } else {
                would();
            }
        }

        void oddTape() {
            int n = pick(m.count(5) + 1);
            due("end(" + n + ")", x.end(n) ? 1 : 0, m.end(n) ? 1 : 0);
            String text = texts.spoilt(r.nextInt(3) == 0 ? texts.law() : r.nextBoolean() ? texts.season() : texts.house(false));
            for (int i = 0; i < text.length(); i += 20) {
                feed(text.substring(i, Math.min(text.length(), i + 20)));
            }
            int sort = pick(3);
            due("fault(" + sort + ") of '" + m.tape + "'", x.fault(sort), m.fault(sort));
            for (int s = 0; s < 3; s++) {
                due("fault(" + s + ") of '" + m.tape + "'", x.fault(s), m.fault(s));
            }
            sort = pick(3);
            if (sort != 0 || r.nextInt(6) == 0) {
                due("text(" + sort + ")", x.text(sort), m.text(sort));
            }
        }

        void asks() {
            for (int i = 0; i < 3; i++) {
                int a = pick(4);
                int b = pick(4);
                due("drama(" + a + "," + b + ")", x.drama(a, b), m.drama(a, b));
                a = pick(chairs());
                due("chair(" + a + "," + b + ")", chairOf(a, b), m.chair(a, b));
                a = pick(sitters());
                b = pick(2);
                due("sitter(" + a + "," + b + ")", x.sitter(a, b), m.sitter(a, b));
                due("rule(" + b + ")", x.rule(b), m.rule(b));
                a = pick(14);
                due("count(" + a + ")", x.count(a), m.count(a));
                a = pick(Math.max(1, m.count(12)));
                b = pick(3);
                due("log(" + a + "," + b + ")", x.log(a, b), m.log(a, b));
                int c = pick(4);
                a = pick(16);
                due("step(" + c + "," + a + "," + b + ")", x.step(c, a, b), m.step(c, a, b));
            }
        }

        int chairOf(int a, int b) {
            try {
                return x.chair(a, b);
            } catch (NoSuchElementException e) {
                return -777;
            }
        }

        void hand() {
            int chair = pick(chairs());
            int play = pick(plays());
            int sitter = pick(sitters());
            switch (r.nextInt(14)) {
                case 0:
                case 1:
                case 2:
                    due("evening(" + play + ")", x.evening(play), m.evening(play));
                    break;
                case 3:
                case 4:
                    due("change(" + chair + "," + sitter + ")", x.change(chair, sitter), m.change(chair, sitter));
                    break;
                case 5:
                    due("ill(" + sitter + ")", x.ill(sitter) ? 1 : 0, m.ill(sitter) ? 1 : 0);
                    break;
                case 6:
                    int v = pick(10);
                    due("heart(" + chair + "," + v + ")", x.heart(chair, v), m.heart(chair, v));
                    break;
                case 7:
                    int n = pick(51);
                    due("give(" + chair + "," + n + ")", x.give(chair, n), m.give(chair, n));
                    break;
                case 8:
                    int p = pick(31);
                    due("price(" + p + ")", x.price(p), m.price(p));
                    break;
                case 9:
                    int times = pick(31);
                    long s = r.nextLong();
                    due("years(" + times + "," + s + ")", x.years(times, s), m.years(times, s));
                    break;
                case 10:
                    int season = pick(Math.max(1, m.count(4)));
                    due("perform(" + season + ")", x.perform(season), m.perform(season));
                    break;
                case 11:
                    due("image()", x.image(), m.image());
                    break;
                case 12:
                    if (r.nextInt(3) == 0) {
                        due("back()", x.back(), m.back());
                    }
                    break;
                default:
                    int undone = 1 + (r.nextInt(9) == 0 ? r.nextInt(45) : r.nextInt(3));
                    for (int i = 0; i < undone; i++) {
                        due("undo()", x.undo(), m.undo());
                    }
            }
        }

        void small() {
            int law = r.nextInt(3) == 0 ? pick(4) : m.count(3) - 1;
            due("law(" + law + ")", x.law(law) ? 1 : 0, m.law(law) ? 1 : 0);
            int flu = pick(10);
            due("flu(" + flu + ")", x.flu(flu) ? 1 : 0, m.flu(flu) ? 1 : 0);
        }

        void would() {
            int chair = pick(chairs());
            int play = pick(plays());
            int sitter = pick(sitters());
            int what = pick(2);
            switch (r.nextInt(18)) {
                case 0:
                    due("feels(" + chair + "," + play + "," + what + ")", x.feels(chair, play, what), m.feels(chair, play, what));
                    break;
                case 1:
                    due("first(" + play + ")", x.first(play), m.first(play));
                    break;
                case 2:
                    int w = r.nextBoolean() ? r.nextInt(12) : pick(100);
                    due("tickets(" + play + "," + w + "," + what + ")", x.tickets(play, w, what), m.tickets(play, w, what));
                    break;
                case 3:
                    due("most(" + play + "," + what + ")", x.most(play, what), m.most(play, what));
                    break;
                case 4:
                case 5:
                    int k = pick(9);
                    int v = r.nextBoolean() ? r.nextInt(10) : pick(100);
                    boolean is = r.nextBoolean();
                    due("howled(" + chair + "," + play + "," + k + "," + v + "," + is + ")",
                        x.howled(chair, play, k, v, is), m.howled(chair, play, k, v, is));
                    break;
                case 6:
                    due("whose(" + chair + ")", x.whose(chair), m.whose(chair));
                    break;
                case 7:
                    int u = r.nextBoolean() ? r.nextInt(10) : pick(100);
                    due("following(" + chair + "," + u + ")", x.following(chair, u), m.following(chair, u));
                    break;
                case 8:
                    int sum = r.nextInt(3) == 0 ? pick(1000) : m.someSum(play, r);
                    int i = r.nextBoolean() ? -1 : pick(6);
                    due("halves(" + play + "," + sum + "," + i + ")", x.halves(play, sum, i), m.halves(play, sum, i));
                    break;
                case 9:
                    int other = pick(chairs());
                    int y = pick(sitters());
                    due("game(" + chair + "," + other + "," + play + "," + sitter + "," + y + "," + what + ")",
                        x.game(chair, other, play, sitter, y, what), m.game(chair, other, play, sitter, y, what));
                    break;
                case 10:
                    int two = pick(chairs());
                    int j = r.nextBoolean() ? -1 : pick(5);
                    due("rests(" + chair + "," + two + "," + play + "," + j + ")",
                        x.rests(chair, two, play, j), m.rests(chair, two, play, j));
                    break;
                case 11:
                    int n = pick(5);
                    due("borne(" + n + "," + what + ")", x.borne(n, what), m.borne(n, what));
                    break;
                case 12:
                    int minute = pick(9);
                    due("meant(" + play + "," + minute + ")", x.meant(play, minute), m.meant(play, minute));
                    break;
                case 13:
                    int chance = pick(101);
                    due("odds(" + chair + "," + play + "," + chance + ")", x.odds(chair, play, chance), m.odds(chair, play, chance));
                    break;
                case 14:
                    int of = pick(8);
                    due("all(" + of + ")", x.all(of), m.all(of));
                    break;
                case 15:
                    due("peak(" + play + "," + what + ")", x.peak(play, what), m.peak(play, what));
                    due("house(" + sitter + ")", x.house(sitter), m.house(sitter));
                    break;
                case 16:
                    due("hardens(" + chair + "," + play + ")", x.hardens(chair, play), m.hardens(chair, play));
                    break;
                default:
                    int season = pick(Math.max(1, m.count(4)));
                    due("run(" + season + "," + what + ")", x.run(season, what), m.run(season, what));
            }
        }
    }

    /** Random texts of each sort. */
    private static final class Texts {
        final Random r;

        Texts(Random r) {
            this.r = r;
        }

        String blank() {
            return r.nextInt(25) == 0 ? " " : "";
        }

        String house(boolean big) {
            List<String> clauses = new ArrayList<>();
            int most = big ? 6 : 1 + r.nextInt(4);
            int sitters = big ? 6 : 1 + r.nextInt(most);
            int chairs = big ? 5 + r.nextInt(2) : 1 + r.nextInt(most);
            if (r.nextInt(4) != 0) {
                clauses.add("s" + item("l", 1, r.nextBoolean() ? 99 : 14) + item("p", 0, r.nextBoolean() ? 30 : 5));
            }
            int plays = 1 + r.nextInt(4);
            for (int i = 0; i < plays; i++) {
                clauses.add("p" + shuffled(item("a", 0, 9), item("b", 0, 9), item("c", 0, 9), item("m", 1, 9)));
            }
            for (int i = 0; i < chairs; i++) {
                clauses.add("c" + shuffled(item("h", 0, 9), item("t", 0, sitters - 1), item("m", 0, 99)));
            }
            for (int i = 0; i < sitters; i++) {
                clauses.add("t" + item("d", 0, 9));
            }
            java.util.Collections.shuffle(clauses, r);
            String text = String.join(blank() + ";" + blank(), clauses);
            return text.length() > 240 ? text.substring(0, 240) : text;
        }

        String item(String letter, int low, int high) {
            if (r.nextInt(5) == 0) {
                return "";
            }
            int v = low + r.nextInt(high - low + 1);
            String zero = v < 10 && r.nextInt(12) == 0 ? "0" : "";
            return blank() + letter + blank() + zero + v + blank();
        }

        String shuffled(String... parts) {
            List<String> list = new ArrayList<>(Arrays.asList(parts));
            java.util.Collections.shuffle(list, r);
            return String.join("", list);
        }

        String law() {
            StringBuilder s = new StringBuilder();
            int clauses = 1 + r.nextInt(3);
            for (int i = 0; i < clauses; i++) {
                s.append(i == 0 ? "" : ";").append(blank()).append("y").append(blank()).append(":");
                if (r.nextInt(3) != 0) {
                    s.append(condition(2)).append("?");
                }
                s.append(sum(2));
            }
            return s.length() > 240 ? s.substring(0, 240) : s.toString();
        }

        String condition(int depth) {
            StringBuilder s = new StringBuilder(unit(depth));
            while (r.nextInt(3) == 0) {
                s.append(r.nextBoolean() ? "|" : "&").append(unit(depth));
            }
            return s.toString();
        }

        String unit(int depth) {
            int way = r.nextInt(5);
            if (depth > 0 && way == 0) {
                return blank() + "!" + unit(depth - 1);
            }
            if (depth > 0 && way == 1) {
                return "(" + condition(depth - 1) + ")" + blank();
            }
            return sum(depth - 1) + "=<>".charAt(r.nextInt(3)) + sum(depth - 1);
        }

        String sum(int depth) {
            StringBuilder s = new StringBuilder(atom(depth));
            while (r.nextInt(5) < 2) {
                s.append(blank()).append("+-*/".charAt(r.nextInt(4))).append(atom(depth));
            }
            return s.toString();
        }

        String atom(int depth) {
            int way = r.nextInt(8);
            if (depth > 0 && way == 0) {
                return "[" + blank() + sum(depth - 1) + "]";
            }
            if (way < 3) {
                int[] tens = {10, 10, 10, 100, 10000};
                return blank() + r.nextInt(tens[r.nextInt(5)]) + blank();
            }
            return "" + "fhdnke".charAt(r.nextInt(6));
        }

        String season() {
            StringBuilder s = new StringBuilder();
            int steps = 1 + r.nextInt(r.nextInt(4) == 0 ? 18 : 5);
            for (int i = 0; i < steps; i++) {
                s.append(i == 0 ? "" : ";").append(blank());
                int way = r.nextInt(3);
                int digit = r.nextInt(20) == 0 ? r.nextInt(10) : r.nextInt(3);
                s.append("exi".charAt(way)).append(blank()).append(digit);
                s.append(way == 1 ? blank() + r.nextInt(3) : "").append(blank());
            }
            return s.toString();
        }

        /** With some bytes put in, taken out, changed. */
        String spoilt(String text) {
            String signs = ";:yspctlabmhdfnke!()[]|&=<>+-*/?0123456789 xi\u00e9A";
            StringBuilder s = new StringBuilder(text);
            for (int n = r.nextInt(3); n > 0; n--) {
                char sign = signs.charAt(r.nextInt(signs.length()));
                int at = r.nextInt(s.length() + 1);
                int way = r.nextInt(4);
                if (way == 0 || at == s.length()) {
                    s.insert(at, sign);
                } else if (way == 1) {
                    s.setCharAt(at, sign);
                } else if (way == 2) {
                    s.deleteCharAt(at);
                } else {
                    s.setLength(at);
                }
            }
            return s.toString();
        }
    }

    /** A FAULT was found here. */
    private static final class Fault extends RuntimeException {
        private static final long serialVersionUID = 1;
        final int at;

        Fault(int at) {
            super(null, null, false, false);
            this.at = at;
        }
    }

    private static final class State {
        int[] heart;
        int[] seat;
        int[] money;
        int[] tears;
        TreeSet<Integer> ill = new TreeSet<>();
        int price;
        int evening;
        List<int[]> log = new ArrayList<>();

        State copy() {
            State s = new State();
            s.heart = heart.clone();
            s.seat = seat.clone();
            s.money = money.clone();
            s.tears = tears.clone();
            s.ill.addAll(ill);
            s.price = price;
            s.evening = evening;
            s.log.addAll(log);
            return s;
        }
    }

    private static final class Show {
        int[] felt;
        int[] out;
        int all;
    }

    /** What the document says, in the plainest way. */
    private static final class Model {
        StringBuilder tape = new StringBuilder();
        List<Map<Character, Integer>> plays = new ArrayList<>();
        List<Integer> dull = new ArrayList<>();
        int leads;
        State st;
        State image;
        Deque<State> acts = new ArrayDeque<>();
        List<String> laws = new ArrayList<>();
        List<List<int[]>> seasons = new ArrayList<>();
        int law = -1;
        int flu = 1;
        List<int[]> facts = new ArrayList<>();

        // ---- texts

        int feed(int[] five) {
            StringBuilder more = new StringBuilder();
            for (int v : five) {
                for (byte b : java.nio.ByteBuffer.allocate(4).putInt(v).array()) {
                    if (b != 0) {
                        more.append((char) (b & 255));
                    }
                }
            }
            if (tape.length() + more.length() > 240) {
                return -1;
            }
            tape.append(more);
            return tape.length();
        }

        boolean end(int n) {
            if (n < 0 || n > tape.length()) {
                return false;
            }
            tape.setLength(n);
            return true;
        }

        int fault(int sort) {
            if (sort < 0 || sort > 2) {
                return -2;
            }
            try {
                if (sort == 0) {
                    parseHouse();
                } else if (sort == 1) {
                    new LawText(tape.toString()).check();
                } else {
                    parseSeason();
                }
                return -1;
            } catch (Fault f) {
                return f.at;
            }
        }

        int text(int sort) {
            if (fault(sort) != -1) {
                return -1;
            }
            if (sort == 0) {
                takeHouse(parseHouse());
                tape.setLength(0);
                return st.heart.length;
            }
            if (sort == 1) {
                if (laws.size() == 4) {
                    return -1;
                }
                laws.add(tape.toString());
                tape.setLength(0);
                return laws.size() - 1;
            }
            if (seasons.size() == 4) {
                return -1;
            }
            seasons.add(parseSeason());
            tape.setLength(0);
            return seasons.size() - 1;
        }

        static Map<Character, int[]> items(char kind) {
            Map<Character, int[]> items = new HashMap<>();
            if (kind == 's') {
                items.put('l', new int[] {1, 99, 12});
                items.put('p', new int[] {0, 30, 5});
            } else if (kind == 'p') {
                items.put('a', new int[] {0, 9, 3});
                items.put('b', new int[] {0, 9, 3});
                items.put('c', new int[] {0, 9, 3});
                items.put('m', new int[] {1, 9, 3});
            } else if (kind == 'c') {
                items.put('h', new int[] {0, 9, 5});
                items.put('t', new int[] {0, 5, 0});
                items.put('m', new int[] {0, 99, 20});
            } else {
                items.put('d', new int[] {0, 9, 2});
            }
            return items;
        }

        /** Clauses by kind. */
        Map<Character, List<Map<Character, Integer>>> parseHouse() {
            Map<Character, List<Map<Character, Integer>>> house = new HashMap<>();
            for (char kind : "spct".toCharArray()) {
                house.put(kind, new ArrayList<>());
            }
            String t = tape.toString();
            int at = skip(t, 0);
            while (true) {
                if (at == t.length()) {
                    throw new Fault(at);
                }
                char kind = t.charAt(at);
                if ("spct".indexOf(kind) < 0 || house.get(kind).size() == (kind == 's' ? 1 : kind == 'p' ? 4 : 6)) {
                    throw new Fault(at);
                }
                Map<Character, Integer> clause = new HashMap<>();
                house.get(kind).add(clause);
                at = skip(t, at + 1);
                while (at < t.length() && t.charAt(at) != ';') {
                    char letter = t.charAt(at);
                    int[] item = items(kind).get(letter);
                    if (item == null || clause.containsKey(letter)) {
                        throw new Fault(at);
                    }
                    at = skip(t, at + 1);
                    int digits = 0;
                    while (at + digits < t.length() && "0123456789".indexOf(t.charAt(at + digits)) >= 0) {
                        digits++;
                    }
                    if (digits == 0) {
                        throw new Fault(at);
                    }
                    if (digits > 2) {
                        throw new Fault(at + 2);
                    }
                    int v = Integer.parseInt(t.substring(at, at + digits));
                    if (v < item[0] || v > item[1]) {
                        throw new Fault(at + digits - 1);
                    }
                    clause.put(letter, v);
                    at = skip(t, at + digits);
                }
                if (at == t.length()) {
                    break;
                }
                at = skip(t, at + 1);
            }
            boolean whole = !house.get('p').isEmpty() && !house.get('c').isEmpty() && !house.get('t').isEmpty();
            for (Map<Character, Integer> chair : house.get('c')) {
                whole &= chair.getOrDefault('t', 0) < house.get('t').size();
            }
            if (!whole) {
                throw new Fault(t.length());
            }
            return house;
        }

        static int skip(String t, int at) {
            while (at < t.length() && t.charAt(at) == ' ') {
                at++;
            }
            return at;
        }

        static int of(Map<Character, Integer> clause, char kind, char letter) {
            return clause.getOrDefault(letter, items(kind).get(letter)[2]);
        }

        void takeHouse(Map<Character, List<Map<Character, Integer>>> house) {
            plays = new ArrayList<>();
            for (Map<Character, Integer> p : house.get('p')) {
                Map<Character, Integer> play = new HashMap<>();
                for (char letter : "abcm".toCharArray()) {
                    play.put(letter, of(p, 'p', letter));
                }
                plays.add(play);
            }
            dull = new ArrayList<>();
            for (Map<Character, Integer> t : house.get('t')) {
                dull.add(of(t, 't', 'd'));
            }
            Map<Character, Integer> rules = house.get('s').isEmpty() ? new HashMap<>() : house.get('s').get(0);
            leads = of(rules, 's', 'l');
            int n = house.get('c').size();
            st = new State();
            st.price = of(rules, 's', 'p');
            st.heart = new int[n];
            st.seat = new int[n];
            st.money = new int[n];
            st.tears = new int[n];
            for (int i = 0; i < n; i++) {
                st.heart[i] = of(house.get('c').get(i), 'c', 'h');
                st.seat[i] = of(house.get('c').get(i), 'c', 't');
                st.money[i] = of(house.get('c').get(i), 'c', 'm');
            }
            image = null;
            acts.clear();
            facts.clear();
        }

        List<int[]> parseSeason() {
            String t = tape.toString();
            List<int[]> steps = new ArrayList<>();
            int at = skip(t, 0);
            while (true) {
                if (at == t.length() || "exi".indexOf(t.charAt(at)) < 0) {
                    throw new Fault(at);
                }
                int kind = "exi".indexOf(t.charAt(at));
                int[] step = {kind, -1, -1};
                for (int d = 1; d <= (kind == 1 ? 2 : 1); d++) {
                    at = skip(t, at + 1);
                    if (at == t.length() || "0123456789".indexOf(t.charAt(at)) < 0) {
                        throw new Fault(at);
                    }
                    step[d] = t.charAt(at) - '0';
                }
                steps.add(step);
                at = skip(t, at + 1);
                if (at == t.length()) {
                    return steps;
                }
                if (t.charAt(at) != ';' || steps.size() == 16) {
                    throw new Fault(at);
                }
                at = skip(t, at + 1);
            }
        }

        // ---- plain answers

        boolean chairs(int... which) {
            for (int c : which) {
                if (st == null || c < 0 || c >= st.heart.length) {
                    return false;
                }
            }
            return true;
        }

        boolean sitters(int... which) {
            for (int s : which) {
                if (st == null || s < 0 || s >= dull.size()) {
                    return false;
                }
            }
            return true;
        }

        boolean play(int p) {
            return st != null && p >= 0 && p < plays.size();
        }

        static boolean in(int v, int low, int high) {
            return v >= low && v <= high;
        }

        int rule(int what) {
            return st == null ? -1 : what == 0 ? leads : what == 1 ? st.price : -1;
        }

        int drama(int p, int what) {
            return play(p) && in(what, 0, 3) ? plays.get(p).get("abcm".charAt(what)) : -1;
        }

        int chair(int c, int what) {
            if (!chairs(c) || !in(what, 0, 3)) {
                return -777;
            }
            return new int[] {st.heart[c], st.seat[c], st.money[c], st.tears[c]}[what];
        }

        int sitter(int s, int what) {
            if (!sitters(s) || !in(what, 0, 1)) {
                return -1;
            }
            return what == 0 ? dull.get(s) : st.ill.contains(s) ? 1 : 0;
        }

        boolean law(int v) {
            if (!in(v, -1, laws.size() - 1)) {
                return false;
            }
            law = v;
            return true;
        }

        boolean flu(int v) {
            if (!in(v, 0, 9) || v == flu) {
                return false;
            }
            flu = v;
            return true;
        }

        // ---- how plays go

        int feeling(int p, int k) {
            return plays.get(p).get("abc".charAt(k % 3));
        }

        int minutes(int p) {
            return plays.get(p).get('m');
        }

        final Map<List<Integer>, Integer> known = new HashMap<>();

        int moved(int f, int h, int d, int n, int k, int e) {
            List<Integer> key = List.of(law, f, h, d, n, k, e);
            Integer v = known.get(key);
            if (v == null) {
                int worth = law < 0 ? f + h - d : new LawText(laws.get(law)).worth(f, h, d, n, k, e);
                v = Math.min(99, Math.max(0, worth)) / n;
                known.put(key, v);
            }
            return v;
        }

        Show show(State s, int[] seat, int p) {
            int n = seat.length;
            Show show = new Show();
            show.felt = new int[n];
            show.out = new int[n];
            Arrays.fill(show.out, -1);
            for (int k = 0; k < minutes(p); k++) {
                boolean[] sits = new boolean[n];
                for (int c = 0; c < n; c++) {
                    sits[c] = show.out[c] < 0;
                }
                for (int c = 0; c < n; c++) {
                    if (sits[c] && !s.ill.contains(seat[c])) {
                        int share = 0;
                        for (int o = 0; o < n; o++) {
                            share += sits[o] && seat[o] == seat[c] ? 1 : 0;
                        }
                        int v = moved(feeling(p, k), s.heart[c], dull.get(seat[c]), share, k, s.evening);
                        show.felt[c] += v;
                        show.all += v;
                        if (v >= leads) {
                            show.out[c] = k;
                        }
                    }
                }
            }
            return show;
        }

        static int bits(int n, IntUnaryOperator is) {
            int bits = 0;
            for (int i = 0; i < n; i++) {
                bits |= is.applyAsInt(i) != 0 ? 1 << i : 0;
            }
            return bits;
        }

        int goEvening(State s, int p) {
            Show show = show(s, s.seat, p);
            for (int c = 0; c < s.heart.length; c++) {
                s.tears[c] = Math.min(9999, s.tears[c] + show.felt[c]);
                if (show.out[c] >= 0 && s.heart[c] > 0) {
                    s.heart[c]--;
                }
            }
            s.ill.clear();
            s.evening++;
            s.log.add(0, new int[] {p, show.all, bits(s.heart.length, i -> show.out[i] >= 0 ? 1 : 0)});
            if (s.log.size() > 60) {
                s.log.remove(60);
            }
            return show.all;
        }

        void keep() {
            acts.push(st.copy());
            if (acts.size() > 40) {
                acts.removeLast();
            }
        }

        /** How much all are MOVED; -1: it can't be. */
        int doStep(State s, int[] step) {
            if (step[0] == 0) {
                return play(step[1]) && s.evening < 999 ? goEvening(s, step[1]) : -1;
            }
            if (step[0] == 1) {
                int c = step[1];
                if (!chairs(c) || !sitters(step[2]) || s.seat[c] == step[2] || s.money[c] < s.price) {
                    return -1;
                }
                s.money[c] -= s.price;
                s.seat[c] = step[2];
                return 0;
            }
            return sitters(step[1]) && s.ill.add(step[1]) ? 0 : -1;
        }

        int tryStep(int... step) {
            if (st == null) {
                return -1;
            }
            State s = st.copy();
            int answer = doStep(s, step);
            if (answer >= 0) {
                keep();
                st = s;
            }
            return answer;
        }

        int evening(int p) {
            return tryStep(0, p, -1);
        }

        int change(int c, int s) {
            return tryStep(1, c, s) < 0 ? -1 : st.money[c];
        }

        boolean ill(int s) {
            return tryStep(2, s, -1) >= 0;
        }

        int heart(int c, int v) {
            if (!chairs(c) || !in(v, 0, 9) || st.heart[c] == v) {
                return -1;
            }
            keep();
            int was = st.heart[c];
            st.heart[c] = v;
            return was;
        }

        int give(int c, int n) {
            if (!chairs(c) || !in(n, 1, 50) || st.money[c] + n > 99) {
                return -1;
            }
            keep();
            return st.money[c] += n;
        }

        int price(int v) {
            if (st == null || !in(v, 0, 30) || st.price == v) {
                return -1;
            }
            keep();
            int was = st.price;
            st.price = v;
            return was;
        }

        long x;

        int draw(int j) {
            x = x * 6364136223846793005L + 1442695040888963407L;
            return (int) (x >>> 33) % j;
        }

        int years(int n, long seed) {
            if (st == null || !in(n, 1, 30) || st.evening + n > 999) {
                return -1;
            }
            x = seed;
            for (int i = 0; i < n; i++) {
                keep();
                if (draw(10) < flu) {
                    st.ill.add(draw(dull.size()));
                }
                int c = draw(st.heart.length);
                int s = draw(dull.size());
                doStep(st, new int[] {1, c, s});
                goEvening(st, draw(plays.size()));
            }
            return st.evening;
        }

        int undo() {
            if (acts.isEmpty()) {
                return -1;
            }
            st = acts.pop();
            return acts.size();
        }

        int log(int i, int what) {
            return st != null && in(i, 0, st.log.size() - 1) && in(what, 0, 2) ? st.log.get(i)[what] : -1;
        }

        int step(int season, int i, int what) {
            if (!in(season, 0, seasons.size() - 1) || !in(i, 0, seasons.get(season).size() - 1) || !in(what, 0, 2)) {
                return -1000000;
            }
            return seasons.get(season).get(i)[what];
        }

        int run(int season, int what) {
            if (st == null || !in(season, 0, seasons.size() - 1) || !in(what, 0, 1)) {
                return -1000000;
            }
            State s = st.copy();
            int sum = 0;
            int done = 0;
            for (int[] step : seasons.get(season)) {
                int v = doStep(s, step);
                if (v < 0) {
                    return what == 0 ? done : sum;
                }
                sum += v;
                done++;
            }
            return what == 0 ? -1 : sum;
        }

        int perform(int season) {
            if (st == null || !in(season, 0, seasons.size() - 1)) {
                return -1;
            }
            int done = 0;
            for (int[] step : seasons.get(season)) {
                if (tryStep(step) < 0) {
                    break;
                }
                done++;
            }
            return done;
        }

        // ---- what would be

        int feels(int c, int p, int what) {
            if (!chairs(c) || !play(p) || !in(what, 0, 1)) {
                return -1000000;
            }
            Show show = show(st, st.seat, p);
            return what == 0 ? show.felt[c] : show.out[c];
        }

        int first(int p) {
            if (!play(p)) {
                return -1;
            }
            Show show = show(st, st.seat, p);
            for (int k = 0; k < 9; k++) {
                for (int c = 0; c < show.out.length; c++) {
                    if (show.out[c] == k) {
                        return c;
                    }
                }
            }
            return -1;
        }

        List<int[]> rows() {
            List<int[]> rows = new ArrayList<>();
            int n = st.seat.length;
            int all = 1;
            for (int i = 0; i < n; i++) {
                all *= dull.size();
            }
            for (int v = 0; v < all; v++) {
                int[] row = new int[n];
                int rest = v;
                for (int i = n - 1; i >= 0; i--) {
                    row[i] = rest % dull.size();
                    rest /= dull.size();
                }
                rows.add(row);
            }
            return rows;
        }

        static int number(int[] row) {
            int v = 0;
            for (int d : row) {
                v = 10 * v + d;
            }
            return v;
        }

        int tickets(int p, int w, int what) {
            if (!play(p) || !in(w, 0, 99) || !in(what, 0, 1)) {
                return -1;
            }
            int best = Integer.MAX_VALUE;
            int bestRow = -1;
            for (int[] row : rows()) {
                Show show = show(st, row, p);
                boolean fits = true;
                int others = 0;
                for (int c = 0; c < row.length; c++) {
                    fits &= show.felt[c] >= w && show.out[c] < 0;
                    others += row[c] != st.seat[c] ? 1 : 0;
                }
                if (fits && others < best) {
                    best = others;
                    bestRow = number(row);
                }
            }
            return bestRow < 0 ? -1 : what == 0 ? best : bestRow;
        }

        int most(int p, int what) {
            if (!play(p) || !in(what, 0, 1)) {
                return -1;
            }
            int best = -1;
            int bestRow = -1;
            for (int[] row : rows()) {
                int all = show(st, row, p).all;
                if (all > best) {
                    best = all;
                    bestRow = number(row);
                }
            }
            return what == 0 ? bestRow : best;
        }

        int howled(int c, int p, int k, int v, boolean is) {
            if (!chairs(c) || !play(p) || !in(k, 0, 8) || !in(v, 0, 99) || facts.size() == 10) {
                return -1;
            }
            facts.add(new int[] {c, p, k, v, is ? 1 : 0});
            return facts.size();
        }

        boolean would(int c, int s, int p, int k, int v) {
            if (k >= minutes(p)) {
                return 0 >= v;
            }
            int n = 1;
            for (int o = 0; o < st.seat.length; o++) {
                n += o != c && st.seat[o] == s ? 1 : 0;
            }
            return moved(feeling(p, k), st.heart[c], dull.get(s), n, k, 0) >= v;
        }

        int whose(int c) {
            if (!chairs(c)) {
                return -1;
            }
            return bits(dull.size(), s -> {
                for (int[] f : facts) {
                    if (f[0] == c && would(c, s, f[1], f[2], f[3]) != (f[4] == 1)) {
                        return 0;
                    }
                }
                return 1;
            });
        }

        int following(int c, int v) {
            if (!chairs(c) || !in(v, 0, 99) || whose(c) == 0) {
                return -1;
            }
            int among = whose(c);
            int best = -1;
            int least = 100;
            for (int p = 0; p < plays.size(); p++) {
                for (int k = 0; k < minutes(p); k++) {
                    int yes = 0;
                    int no = 0;
                    for (int s = 0; s < dull.size(); s++) {
                        if ((among & 1 << s) != 0) {
                            if (would(c, s, p, k, v)) {
                                yes++;
                            } else {
                                no++;
                            }
                        }
                    }
                    if (Math.abs(yes - no) < least) {
                        least = Math.abs(yes - no);
                        best = 10 * p + k;
                    }
                }
            }
            return best;
        }

        int someSum(int p, Random r) {
            if (!play(p)) {
                return 0;
            }
            int sum = 0;
            for (int v : show(st, st.seat, p).felt) {
                sum += r.nextBoolean() ? v : 0;
            }
            return Math.min(999, sum);
        }

        static int sumOf(int[] values, int set) {
            int sum = 0;
            for (int i = 0; i < values.length; i++) {
                sum += (set & 1 << i) != 0 ? values[i] : 0;
            }
            return sum;
        }

        int halves(int p, int sum, int i) {
            if (!play(p) || !in(sum, 0, 999)) {
                return -1;
            }
            int[] felt = show(st, st.seat, p).felt;
            List<Integer> sets = new ArrayList<>();
            for (int set = 0; set < 1 << felt.length; set++) {
                if (sumOf(felt, set) == sum) {
                    sets.add(set);
                }
            }
            return i == -1 ? sets.size() : in(i, 0, sets.size() - 1) ? sets.get(i) : -1;
        }

        int has(int one, int other, int p, int x, int y, int what) {
            int[] row = st.seat.clone();
            row[one] = x;
            row[other] = y;
            Show show = show(st, row, p);
            int me = what == 0 ? one : other;
            return (show.out[me] >= 0 ? 0 : show.felt[me]) - (row[me] != st.seat[me] ? st.price : 0);
        }

        int game(int one, int other, int p, int x, int y, int what) {
            if (!chairs(one, other) || one == other || !play(p) || !sitters(x, y) || !in(what, 0, 1)) {
                return -1000000;
            }
            return has(one, other, p, x, y, what);
        }

        int rests(int one, int other, int p, int i) {
            if (!chairs(one, other) || one == other || !play(p)) {
                return -1;
            }
            List<Integer> rests = new ArrayList<>();
            for (int x = 0; x < dull.size(); x++) {
                for (int y = 0; y < dull.size(); y++) {
                    boolean rest = true;
                    for (int z = 0; z < dull.size(); z++) {
                        rest &= has(one, other, p, z, y, 0) <= has(one, other, p, x, y, 0);
                        rest &= has(one, other, p, x, z, 1) <= has(one, other, p, x, y, 1);
                    }
                    if (rest) {
                        rests.add(10 * x + y);
                    }
                }
            }
            return i == -1 ? rests.size() : in(i, 0, rests.size() - 1) ? rests.get(i) : -1;
        }

        int borne(int n, int what) {
            if (st == null || !in(n, 1, 4) || !in(what, 0, 1)) {
                return -1;
            }
            int[] best = {-1, -1};
            tryBorne(st.copy(), n, 0, 0, best);
            return what == 0 ? best[0] : best[1];
        }

        void tryBorne(State s, int n, int row, int sum, int[] best) {
            if (n == 0) {
                if (sum > best[1]) {
                    best[0] = row;
                    best[1] = sum;
                }
                return;
            }
            for (int p = 0; p < plays.size(); p++) {
                State next = s.copy();
                int all = goEvening(next, p);
                if (next.log.get(0)[2] == 0) {
                    tryBorne(next, n - 1, 10 * row + p, sum + all, best);
                }
            }
        }

        int meant(int p, int k) {
            if (!play(p) || !in(k, 0, minutes(p) - 1)) {
                return -1;
            }
            int n = st.seat.length;
            int[] v = new int[n];
            for (int c = 0; c < n; c++) {
                int share = 0;
                for (int o = 0; o < n; o++) {
                    share += st.seat[o] == st.seat[c] ? 1 : 0;
                }
                v[c] = st.ill.contains(st.seat[c]) ? 0
                    : moved(feeling(p, k), st.heart[c], dull.get(st.seat[c]), share, k, st.evening);
            }
            for (int size = 0; size <= n; size++) {
                for (int set = 0; set < 1 << n; set++) {
                    if (Integer.bitCount(set) == size && sumOf(v, set) >= Arrays.stream(v).sum() / 2) {
                        return set;
                    }
                }
            }
            return -1;
        }

        int odds(int c, int p, int chance) {
            if (!chairs(c) || !play(p) || !in(chance, 0, 100)) {
                return -1;
            }
            int of = 0;
            for (int i = 0; i < 100; i++) {
                State s = st.copy();
                if (i < chance) {
                    s.ill.add(s.seat[c]);
                }
                Show show = show(s, s.seat, p);
                of += show.felt[c] > 0 && show.out[c] < 0 ? 1 : 0;
            }
            return of;
        }

        int sum(int p) {
            int sum = 0;
            for (int k = 0; k < minutes(p); k++) {
                sum += feeling(p, k);
            }
            return sum;
        }

        static int best(int n, IntUnaryOperator of) {
            int best = 0;
            for (int i = n - 1; i >= 0; i--) {
                if (of.applyAsInt(i) >= of.applyAsInt(best)) {
                    best = i;
                }
            }
            for (int i = 0; i < n; i++) {
                if (of.applyAsInt(i) == of.applyAsInt(best)) {
                    return i;
                }
            }
            return -1;
        }

        int sold(int s) {
            int n = 0;
            for (int seat : st.seat) {
                n += seat == s ? 1 : 0;
            }
            return n;
        }

        int all(int what) {
            if (st == null) {
                return -1;
            }
            int n = st.seat.length;
            switch (what) {
                case 0:
                    return best(n, i -> st.heart[i]);
                case 1:
                    return best(n, i -> st.money[i]);
                case 2:
                    return best(n, i -> st.tears[i]);
                case 3:
                    return best(dull.size(), i -> dull.get(i));
                case 4:
                    return bits(dull.size(), i -> sold(i) == 0 ? 1 : 0);
                case 5:
                    return best(plays.size(), i -> sum(i));
                case 6:
                    return bits(n, i -> st.money[i] >= st.price ? 1 : 0);
                case 7:
                    return bits(dull.size(), i -> sold(i) >= 2 ? 1 : 0);
                default:
                    return -1;
            }
        }

        int peak(int p, int what) {
            if (!play(p) || !in(what, 0, 1)) {
                return -1;
            }
            return what == 0 ? best(minutes(p), k -> feeling(p, k)) : sum(p);
        }

        int house(int s) {
            return sitters(s) ? bits(st.seat.length, i -> st.seat[i] == s ? 1 : 0) : -1;
        }

        int hardens(int c, int p) {
            int best = -1;
            for (int v = 0; chairs(c) && play(p) && v <= 9; v++) {
                State s = st.copy();
                s.heart[c] = v;
                best = show(s, s.seat, p).out[c] < 0 ? v : best;
            }
            return best;
        }

        int image() {
            if (st == null) {
                return -1;
            }
            image = st.copy();
            return st.evening;
        }

        int back() {
            if (image == null) {
                return -1;
            }
            st = image.copy();
            acts.clear();
            return st.evening;
        }

        int count(int what) {
            switch (what) {
                case 0:
                    return st == null ? 0 : st.heart.length;
                case 1:
                    return dull.size();
                case 2:
                    return plays.size();
                case 3:
                    return laws.size();
                case 4:
                    return seasons.size();
                case 5:
                    return tape.length();
                case 6:
                    return law;
                case 7:
                    return st == null ? 0 : st.evening;
                case 8:
                    return st == null ? 0 : Arrays.stream(st.tears).sum();
                case 9:
                    return st == null ? 0 : bits(dull.size(), i -> st.ill.contains(i) ? 1 : 0);
                case 10:
                    return flu;
                case 11:
                    return facts.size();
                case 12:
                    return st == null ? 0 : st.log.size();
                case 13:
                    return acts.size();
                default:
                    return -1000000;
            }
        }
    }

    /** A LAW read sign by sign, reckoned while it is read. */
    private static final class LawText {
        final String t;
        int at = 0;
        Map<Character, Integer> letters = new HashMap<>();

        LawText(String t) {
            this.t = t;
            for (char c : "fhdnke".toCharArray()) {
                letters.put(c, 1);
            }
        }

        void check() {
            worth(1, 1, 1, 1, 1, 1);
        }

        int worth(int f, int h, int d, int n, int k, int e) {
            letters.put('f', f);
            letters.put('h', h);
            letters.put('d', d);
            letters.put('n', n);
            letters.put('k', k);
            letters.put('e', e);
            Integer worth = null;
            while (true) {
                need('y');
                need(':');
                boolean holds = true;
                long sum;
                char c = peek();
                if (c == '!' || c == '(') {
                    holds = condition(0, null);
                    need('?');
                    sum = sum(0);
                } else {
                    sum = sum(0);
                    if ("=<>".indexOf(peek()) >= 0) {
                        holds = condition(0, sum);
                        need('?');
                        sum = sum(0);
                    }
                }
                if (holds && worth == null) {
                    worth = (int) sum;
                }
                if (peek() == 0) {
                    return worth == null ? 0 : worth;
                }
                need(';');
            }
        }

        char peek() {
            while (at < t.length() && t.charAt(at) == ' ') {
                at++;
            }
            return at < t.length() ? t.charAt(at) : 0;
        }

        void need(char c) {
            if (peek() != c) {
                throw new Fault(at);
            }
            at++;
        }

        boolean condition(int depth, Long begun) {
            boolean v = truth(depth, begun);
            while (peek() == '|') {
                at++;
                v |= truth(depth, null);
            }
            return v;
        }

        boolean truth(int depth, Long begun) {
            boolean v = unit(depth, begun);
            while (peek() == '&') {
                at++;
                v &= unit(depth, null);
            }
            return v;
        }

        void deeper(int depth) {
            if (depth == 6) {
                throw new Fault(at);
            }
            at++;
        }

        boolean unit(int depth, Long begun) {
            if (begun == null && peek() == '!') {
                deeper(depth);
                return !unit(depth + 1, null);
            }
            if (begun == null && peek() == '(') {
                deeper(depth);
                boolean v = condition(depth + 1, null);
                need(')');
                return v;
            }
            long left = begun == null ? sum(depth) : begun;
            char c = peek();
            if (c == 0 || "=<>".indexOf(c) < 0) {
                throw new Fault(at);
            }
            at++;
            long right = sum(depth);
            return c == '=' ? left == right : c == '<' ? left < right : left > right;
        }

        static long held(long v) {
            return Math.max(-1000000, Math.min(1000000, v));
        }

        long sum(int depth) {
            long v = term(depth);
            while (peek() == '+' || peek() == '-') {
                boolean plus = t.charAt(at++) == '+';
                long w = term(depth);
                v = held(plus ? v + w : v - w);
            }
            return v;
        }

        long term(int depth) {
            long v = atom(depth);
            while (peek() == '*' || peek() == '/') {
                boolean times = t.charAt(at++) == '*';
                long w = atom(depth);
                v = held(times ? v * w : w == 0 ? 0 : v / w);
            }
            return v;
        }

        long atom(int depth) {
            char c = peek();
            if (c == '[') {
                deeper(depth);
                long v = sum(depth + 1);
                need(']');
                return v;
            }
            if (letters.containsKey(c)) {
                at++;
                return letters.get(c);
            }
            if (c < '0' || c > '9') {
                throw new Fault(at);
            }
            long v = 0;
            for (int digits = 0; at < t.length() && t.charAt(at) >= '0' && t.charAt(at) <= '9'; digits++) {
                if (digits == 4) {
                    throw new Fault(at);
                }
                v = 10 * v + t.charAt(at++) - '0';
            }
            return v;
        }
    }
}
