import java.util.ArrayDeque;
import java.util.ArrayList;
import java.util.Arrays;
import java.util.Deque;
import java.util.HashMap;
import java.util.HashSet;
import java.util.List;
import java.util.Map;
import java.util.Set;
import java.util.TreeSet;

/**
 * The document once more, told as plainly as the Java library allows and without regard to speed or room, so
 * that long runs of calls can be held against it. It shares no code and few ways of reckoning with CabinetTable.
 */
public final class Model {
    private static final int BAD = -1000000001, NO = -1000000002, FULL = -1000000003, NONE = -1000000005;
    private static final int NOTHING = -1000000011, KIND = -1000000012, INDEX = -1000000013, SIZE = -1000000014;
    private static final List<String> HEADS = List.of("table", "ahead", "need", "silent", "shut", "strike");
    private static final int[] PARENT = {-1, 0, 0, 2, 1};

    private static final class Change {
        int office, person, day;
    }

    private static final class Board {
        int seats, period, offset;
        Set<Integer> to = new TreeSet<>();
    }

    private static final class Sheet {
        int kind, office, thing, sum, a;
        Integer sent, table, came, let;
        boolean taken, silence;
        int aheadThen;
        Map<Integer, Integer> words = new HashMap<>();
    }

    private static final class Law {
        int head, k, n, day, atoms;
        List<String> condition = List.of(), exception = List.of();
    }

    private static final class Ruling {
        int paper, thing, value, day, binds, government;
        Integer undone;
        Set<Integer> leans = new TreeSet<>();
    }

    private static final class Leaflet {
        int paper, office, day, marks;
        boolean back;
    }

    private static final class World {
        int day, government, offices;
        List<Change> changes = new ArrayList<>();
        List<Board> boards = new ArrayList<>();
        List<Sheet> sheets = new ArrayList<>();
        List<Law> rules = new ArrayList<>();
        List<Ruling> rulings = new ArrayList<>();
        List<Leaflet> leaflets = new ArrayList<>();
        List<Integer> groups = new ArrayList<>();
        Map<Integer, Integer> laws = new HashMap<>();

        World twin() {
            World w = new World();
            w.day = day;
            w.government = government;
            w.offices = offices;
            w.changes.addAll(changes);
            for (Board b : boards) {
                Board c = new Board();
                c.seats = b.seats;
                c.period = b.period;
                c.offset = b.offset;
                c.to.addAll(b.to);
                w.boards.add(c);
            }
            for (Sheet s : sheets) {
                Sheet t = new Sheet();
                t.kind = s.kind;
                t.office = s.office;
                t.thing = s.thing;
                t.sum = s.sum;
                t.a = s.a;
                t.sent = s.sent;
                t.table = s.table;
                t.came = s.came;
                t.let = s.let;
                t.taken = s.taken;
                t.silence = s.silence;
                t.aheadThen = s.aheadThen;
                t.words.putAll(s.words);
                w.sheets.add(t);
            }
            w.rules.addAll(rules);
            for (Ruling r : rulings) {
                Ruling q = new Ruling();
                q.paper = r.paper;
                q.thing = r.thing;
                q.value = r.value;
                q.day = r.day;
                q.binds = r.binds;
                q.government = r.government;
                q.undone = r.undone;
                q.leans.addAll(r.leans);
                w.rulings.add(q);
            }
            for (Leaflet l : leaflets) {
                Leaflet m = new Leaflet();
                m.paper = l.paper;
                m.office = l.office;
                m.day = l.day;
                m.marks = l.marks;
                m.back = l.back;
                w.leaflets.add(m);
            }
            w.groups.addAll(groups);
            w.laws.putAll(laws);
            return w;
        }
    }

    private World w = new World();
    private World image;
    private final List<Integer> waiting = new ArrayList<>();
    private final StringBuilder tape = new StringBuilder();
    private final Object[] registers = new Object[4];
    private final Object[] room = new Object[6];

    // ---- offices, tables

    public int office() {
        return w.offices == 8 ? FULL : w.offices++;
    }

    public int hold(int office, int person) {
        if (no(office, w.offices) || person != NONE && no(person, 100)) return BAD;
        if (w.changes.size() == 40) return FULL;
        int before = held(office, w.day);
        Change c = new Change();
        c.office = office;
        c.person = person;
        c.day = w.day;
        w.changes.add(c);
        return before;
    }

    public int held(int office, int day) {
        if (no(office, w.offices) || no(day, 1000)) return BAD;
        for (int d = day; d >= 0; d--) {
            for (int i = w.changes.size() - 1; i >= 0; i--) {
                Change c = w.changes.get(i);
                if (c.office == office && c.day == d) return c.person;
            }
        }
        return NONE;
    }

    public int govern() {
        return w.government == 99 ? FULL : ++w.government;
    }

    public int table(int seats, int period, int offset) {
        if (no(seats, 256) || period < 1 || period > 30 || no(offset, 30)) return BAD;
        if (w.boards.size() == 6) return FULL;
        Board b = new Board();
        b.seats = seats;
        b.period = period;
        b.offset = offset;
        w.boards.add(b);
        return w.boards.size() - 1;
    }

    public int seats(int table, int set) {
        if (no(table, w.boards.size()) || no(set, 256)) return BAD;
        int before = w.boards.get(table).seats;
        w.boards.get(table).seats = set;
        return before;
    }

    private boolean doesSit(int table, int day) {
        Board b = w.boards.get(table);
        for (int d = b.offset; d <= day; d += b.period) {
            if (d == day) return true;
        }
        return false;
    }

    public int sits(int table, int day) {
        if (no(table, w.boards.size()) || no(day, 10000)) return BAD;
        return doesSit(table, day) ? 1 : 0;
    }

    public int pass(int one, int other, int on) {
        if (no(one, w.boards.size()) || no(other, w.boards.size()) || one == other || no(on, 2)) return BAD;
        Set<Integer> to = w.boards.get(one).to;
        boolean was = on == 1 ? !to.add(other) : to.remove(other);
        return was ? 1 : 0;
    }

    /** All ways from a table on, each as a row of tables with the day at its end. */
    private void ways(List<Integer> way, int day, int goal, int n, List<List<Integer>> found) {
        int here = way.get(way.size() - 1);
        if (here == goal) {
            List<Integer> whole = new ArrayList<>(way);
            whole.add(day);
            found.add(whole);
            return;
        }
        for (int next : w.boards.get(here).to) {
            if (way.contains(next)) continue;
            int d = day + n;
            while (!doesSit(next, d)) d++;
            List<Integer> longer = new ArrayList<>(way);
            longer.add(next);
            ways(longer, d, goal, n, found);
        }
    }

    private static int compareWays(List<Integer> one, List<Integer> other) {
        int byDay = one.get(one.size() - 1).compareTo(other.get(other.size() - 1));
        if (byDay != 0) return byDay;
        if (one.size() != other.size()) return one.size() - other.size();
        for (int i = 0; i < one.size(); i++) {
            if (!one.get(i).equals(other.get(i))) return one.get(i) - other.get(i);
        }
        return 0;
    }

    public int way(int tables, int day, int n, int what) {
        if (tables < 0 || no(tables / 10, w.boards.size()) || no(tables % 10, w.boards.size())) return BAD;
        if (no(day, 1000) || no(n, 31) || what < 0) return BAD;
        List<List<Integer>> found = new ArrayList<>();
        ways(List.of(tables / 10), day, tables % 10, n, found);
        if (found.isEmpty()) return NONE;
        found.sort(Model::compareWays);
        List<Integer> best = found.get(0);
        int many = best.size() - 1;
        if (what == 0) return best.get(many);
        if (what == 1) return many;
        return what - 2 < many ? best.get(what - 2) : NONE;
    }

    // ---- papers

    public int paper(int kind, int office, int thing, int sum, int a) {
        if (no(kind, 5) || no(office, w.offices) || no(thing, 10) || no(sum, 10000) || no(a, 100)) return BAD;
        if (w.sheets.size() == 24) return FULL;
        Sheet s = new Sheet();
        s.kind = kind;
        s.office = office;
        s.thing = thing;
        s.sum = sum;
        s.a = a;
        w.sheets.add(s);
        return w.sheets.size() - 1;
    }

    private static int reach(Sheet s, int kind) {
        switch (kind) {
            case 0: return 5 + s.a / 10;
            case 1: return reach(s, 0) - 2;
            case 2: return reach(s, 0) + 1;
            case 3: return reach(s, 2) / 2;
            default: return Math.max(0, reach(s, 1) - 4);
        }
    }

    private static int shuts(Sheet s, int kind) {
        switch (kind) {
            case 0: return 300;
            case 1: return shuts(s, 0) - s.a;
            case 2: return shuts(s, 0) + 2 * s.a;
            case 3: return 2 * shuts(s, 2) - reach(s, s.kind);
            default: return shuts(s, 1) / 3;
        }
    }

    private static int binds(Sheet s, int kind) {
        switch (kind) {
            case 0: return 1;
            case 1: return 0;
            case 4: return 1 - binds(s, 1);
            default: return binds(s, PARENT[kind]);
        }
    }

    private static int weighs(Sheet s, int kind) {
        switch (kind) {
            case 0: return s.sum / 100 + s.a;
            case 3: return weighs(s, 2) + shuts(s, s.kind);
            case 4: return weighs(s, 1) - reach(s, s.kind) * 2;
            default: return weighs(s, PARENT[kind]);
        }
    }

    private static int said(Sheet s, int word) {
        int set = 0;
        for (Map.Entry<Integer, Integer> e : s.words.entrySet()) {
            if (e.getValue() == word) set += 1 << e.getKey();
        }
        return set;
    }

    private static int orNone(Integer v) {
        return v == null ? NONE : v;
    }

    public int told(int paper, int what) {
        if (no(paper, w.sheets.size()) || no(what, 16)) return BAD;
        Sheet s = w.sheets.get(paper);
        int[] all = {
            s.kind, s.office, s.thing, s.sum, s.a, orNone(s.sent), s.taken ? 1 : 0, said(s, 1), said(s, 0), orNone(s.table), orNone(s.came),
            orNone(s.let), reach(s, s.kind), shuts(s, s.kind), binds(s, s.kind), weighs(s, s.kind),
        };
        return all[what];
    }

    private static boolean under(int kind, int above) {
        return kind == above || kind > 0 && under(PARENT[kind], above);
    }

    public int as(int paper, int kind) {
        if (no(paper, w.sheets.size()) || no(kind, 5)) return BAD;
        return under(w.sheets.get(paper).kind, kind) ? w.sheets.get(paper).sum : KIND;
    }

    public int send(int paper) {
        if (no(paper, w.sheets.size())) return BAD;
        Sheet s = w.sheets.get(paper);
        if (s.sent != null) return NO;
        s.sent = w.day;
        return 1;
    }

    public int take(int paper) {
        if (no(paper, w.sheets.size())) return BAD;
        Sheet s = w.sheets.get(paper);
        if (s.taken || s.sent == null || s.table != null) return NO;
        s.taken = true;
        return 1;
    }

    public int word(int paper, int office, int yes) {
        if (no(paper, w.sheets.size()) || no(office, w.offices) || no(yes, 2)) return BAD;
        Sheet s = w.sheets.get(paper);
        if (s.sent == null || s.taken || s.table != null) return NO;
        return orNone(s.words.put(office, yes));
    }

    // ---- rules

    public int feed(int a, int b, int c) {
        if (tape.length() + 12 > 96) return FULL;
        for (int v : new int[] {a, b, c}) {
            tape.append((char) (v >>> 24)).append((char) (v >>> 16 & 255)).append((char) (v >>> 8 & 255)).append((char) (v & 255));
        }
        return tape.length();
    }

    public int trim(int n) {
        if (n < 0 || n > tape.length()) return BAD;
        tape.setLength(n);
        return n;
    }

    private static boolean letter(char c) {
        return "abcdefghijklmnopqrstuvwxyz".indexOf(c) >= 0;
    }

    private static boolean digit(char c) {
        return "0123456789".indexOf(c) >= 0;
    }

    /** The words and signs, with their places; one that lacks its blank, or is too long a number, is told as "?". */
    private static void cut(String text, List<String> words, List<Integer> places) {
        int i = 0;
        while (i < text.length()) {
            char c = text.charAt(i);
            if (c == ' ') {
                i++;
                continue;
            }
            int j = i + 1;
            while (j < text.length() && (letter(c) && letter(text.charAt(j)) || digit(c) && digit(text.charAt(j)))) j++;
            String word = text.substring(i, j);
            boolean isWord = letter(c) || digit(c);
            boolean glued = isWord && i > 0 && (letter(text.charAt(i - 1)) || digit(text.charAt(i - 1)));
            if (glued || digit(c) && word.length() > 5) word = "?";
            words.add(word);
            places.add(i);
            i = j;
        }
    }

    /** Walks the words with the set of what may come next: the number of words that go on, all if the end may come, too. */
    private static int goodWords(List<String> words) {
        String next = "head";
        int seen = 0;
        boolean strike = false;
        int cur = 0;
        Deque<Integer> base = new ArrayDeque<>();
        base.push(0);
        for (int i = 0; i < words.size(); i++) {
            String word = words.get(i);
            boolean number = digit(word.charAt(0));
            switch (next) {
                case "head":
                    if (!HEADS.contains(word)) return i;
                    strike = word.equals("strike");
                    next = "k";
                    break;
                case "k":
                    if (!number) return i;
                    next = strike ? "part" : "n";
                    break;
                case "n":
                    if (!number) return i;
                    next = "part";
                    break;
                case "part":
                    if (word.equals("if")) seen = 1;
                    else if (word.equals("unless")) seen = 2;
                    else return i;
                    next = "operand";
                    break;
                case "operand":
                    if (word.equals("not")) {
                        if (++cur > 8) return i;
                    } else if (word.equals("(")) {
                        if (base.size() == 9) return i;
                        base.push(cur);
                    } else if (word.equals("sum") || word.equals("day") || word.equals("gov")) {
                        next = "op";
                    } else if (word.equals("by") || word.equals("thing") || word.equals("agreed")) {
                        next = "number";
                    } else {
                        return i;
                    }
                    break;
                case "op":
                    if (!word.equals("<") && !word.equals(">")) return i;
                    next = "number";
                    break;
                case "number":
                    if (!number) return i;
                    cur = base.peek();
                    next = "link";
                    break;
                default:
                    if (word.equals("and") || word.equals("or")) {
                        next = "operand";
                    } else if (word.equals(")") && base.size() > 1) {
                        base.pop();
                        cur = base.peek();
                    } else if (word.equals("unless") && base.size() == 1 && seen == 1) {
                        seen = 2;
                        next = "operand";
                    } else {
                        return i;
                    }
            }
        }
        boolean mayEnd = next.equals("part") || next.equals("link") && base.size() == 1;
        return mayEnd ? words.size() + 1 : words.size();
    }

    private boolean wrong(Law rule, List<String> words) {
        int[] most = {w.boards.size() - 1, 99, w.offices - 1, 99, 999};
        if (rule.head == 5 ? rule.k >= w.rules.size() : rule.k > 4 || rule.n > most[rule.head]) return true;
        for (int i = 0; i + 1 < words.size(); i++) {
            boolean office = words.get(i).equals("by") || words.get(i).equals("agreed");
            if (office && Integer.parseInt(words.get(i + 1)) >= w.offices) return true;
        }
        return false;
    }

    public int rule(int day) {
        String text = tape.toString();
        tape.setLength(0);
        if (no(day, 1000)) return BAD;
        List<String> words = new ArrayList<>();
        List<Integer> places = new ArrayList<>();
        cut(text, words, places);
        places.add(text.length());
        int good = goodWords(words);
        if (good <= words.size()) return -100 - places.get(good);
        Law rule = new Law();
        rule.head = HEADS.indexOf(words.get(0));
        rule.k = Integer.parseInt(words.get(1));
        rule.n = rule.head == 5 ? NONE : Integer.parseInt(words.get(2));
        rule.day = day;
        for (String word : words) {
            if (List.of("sum", "day", "gov", "by", "thing", "agreed").contains(word)) rule.atoms++;
        }
        int unless = words.indexOf("unless");
        int end = unless < 0 ? words.size() : unless;
        if (words.contains("if")) rule.condition = words.subList(words.indexOf("if") + 1, end);
        if (unless >= 0) rule.exception = words.subList(unless + 1, words.size());
        if (wrong(rule, words)) return NO;
        if (w.rules.size() == 16) return FULL;
        w.rules.add(rule);
        return w.rules.size() - 1;
    }

    public int of(int rule, int what) {
        if (no(rule, w.rules.size()) || no(what, 5)) return BAD;
        Law r = w.rules.get(rule);
        return new int[] {r.head, r.k, r.n, r.day, r.atoms}[what];
    }

    /** The parts between a word that stands outside of brackets. */
    private static List<List<String>> split(List<String> words, String at) {
        List<List<String>> parts = new ArrayList<>();
        int open = 0;
        int from = 0;
        for (int i = 0; i < words.size(); i++) {
            if (words.get(i).equals("(")) open++;
            if (words.get(i).equals(")")) open--;
            if (open == 0 && words.get(i).equals(at)) {
                parts.add(words.subList(from, i));
                from = i + 1;
            }
        }
        parts.add(words.subList(from, words.size()));
        return parts;
    }

    private static boolean so(List<String> words, World w, Sheet s) {
        List<List<String>> ors = split(words, "or");
        if (ors.size() > 1) return ors.stream().anyMatch(part -> so(part, w, s));
        List<List<String>> ands = split(words, "and");
        if (ands.size() > 1) return ands.stream().allMatch(part -> so(part, w, s));
        if (words.get(0).equals("not")) return !so(words.subList(1, words.size()), w, s);
        if (words.get(0).equals("(")) return so(words.subList(1, words.size() - 1), w, s);
        int n = Integer.parseInt(words.get(words.size() - 1));
        boolean below = words.get(1).equals("<");
        switch (words.get(0)) {
            case "sum": return below ? s.sum < n : s.sum > n;
            case "day": return below ? w.day < n : w.day > n;
            case "gov": return below ? w.government < n : w.government > n;
            case "by": return s.office == n;
            case "thing": return s.thing == n;
            default: return s.words.getOrDefault(n, 0) == 1;
        }
    }

    private static boolean wouldCount(World w, Law r, Sheet s) {
        if (r.day > w.day) return false;
        if (r.head != 5 && !under(s.kind, r.k)) return false;
        if (!r.condition.isEmpty() && !so(r.condition, w, s)) return false;
        return r.exception.isEmpty() || !so(r.exception, w, s);
    }

    private static boolean doesCount(World w, int rule, Sheet s) {
        if (!wouldCount(w, w.rules.get(rule), s)) return false;
        for (int i = rule + 1; i < w.rules.size(); i++) {
            if (w.rules.get(i).head == 5 && w.rules.get(i).k == rule && doesCount(w, i, s)) return false;
        }
        return true;
    }

    public int counts(int rule, int paper) {
        if (no(rule, w.rules.size()) || no(paper, w.sheets.size())) return BAD;
        return doesCount(w, rule, w.sheets.get(paper)) ? 1 : 0;
    }

    private static List<Integer> counting(World w, Sheet s, int head) {
        List<Integer> all = new ArrayList<>();
        for (int i = 0; i < w.rules.size(); i++) {
            if (w.rules.get(i).head == head && doesCount(w, i, s)) all.add(i);
        }
        return all;
    }

    private static int dueOf(World w, Sheet s, int what) {
        List<Integer> all = counting(w, s, what);
        if (what == 2) {
            Set<Integer> offices = new HashSet<>();
            for (int i : all) offices.add(w.rules.get(i).n);
            return bits(offices);
        }
        if (!all.isEmpty()) return w.rules.get(all.get(all.size() - 1)).n;
        return new int[] {0, reach(s, s.kind), 0, 0, shuts(s, s.kind)}[what];
    }

    public int due(int paper, int what) {
        if (no(paper, w.sheets.size()) || no(what, 5)) return BAD;
        return dueOf(w, w.sheets.get(paper), what);
    }

    public int why(int paper, int what) {
        if (no(paper, w.sheets.size()) || no(what, 5)) return BAD;
        List<Integer> all = counting(w, w.sheets.get(paper), what);
        return all.isEmpty() ? NONE : all.get(all.size() - 1);
    }

    public int quarrel(int one, int other) {
        if (no(one, w.rules.size()) || no(other, w.rules.size()) || one == other) return BAD;
        Law a = w.rules.get(one);
        Law b = w.rules.get(other);
        if (a.head == 2 || a.head == 5 || b.head == 2 || b.head == 5 || a.head != b.head) return KIND;
        if (a.n == b.n) return NONE;
        for (int i = 0; i < w.sheets.size(); i++) {
            if (wouldCount(w, a, w.sheets.get(i)) && wouldCount(w, b, w.sheets.get(i))) return i;
        }
        return NONE;
    }

    // ---- what comes, what is decided

    public int lacks(int paper, int table) {
        if (no(paper, w.sheets.size()) || no(table, w.boards.size())) return BAD;
        Sheet s = w.sheets.get(paper);
        if (s.sent == null || s.taken || s.table != null) return 1;
        if (dueOf(w, s, 0) != table) return 2;
        if (!doesSit(table, w.day)) return 3;
        if (w.day - s.sent < dueOf(w, s, 1)) return 4;
        int need = dueOf(w, s, 2);
        for (int office = 0; office < 8; office++) {
            if (has(need, office) && s.words.getOrDefault(office, 0) == 0) return 10 + office;
        }
        return 0;
    }

    public int come(int paper, int table, int office) {
        if (no(paper, w.sheets.size()) || no(table, w.boards.size()) || office != NONE && no(office, w.offices)) return BAD;
        int lack = lacks(paper, table);
        boolean lets = office != NONE && has(w.boards.get(table).seats, office);
        if (lack == 1 || lack > 1 && !lets) return NO;
        Sheet s = w.sheets.get(paper);
        s.aheadThen = dueOf(w, s, 1);
        s.table = table;
        s.came = w.day;
        s.let = lack > 0 ? office : null;
        return lack;
    }

    private static int rulingBy(World w, int paper, int value, int leans) {
        Sheet s = w.sheets.get(paper);
        Ruling r = new Ruling();
        r.paper = paper;
        r.thing = s.thing;
        r.value = value;
        r.day = w.day;
        r.government = w.government;
        r.binds = w.boards.get(s.table).seats;
        for (int i = 0; i < 31; i++) {
            if (has(leans, i)) r.leans.add(i);
        }
        w.rulings.add(r);
        return w.rulings.size() - 1;
    }

    public int decide(int paper, int value, int leans) {
        if (no(paper, w.sheets.size()) || no(value, 100) || leans < 0) return BAD;
        for (int i = w.rulings.size(); i < 31; i++) {
            if (has(leans, i)) return BAD;
        }
        Sheet s = w.sheets.get(paper);
        if (binds(s, s.kind) == 0) return KIND;
        if (s.table == null || s.came != w.day || w.rulings.stream().anyMatch(r -> r.paper == paper)) return NO;
        if (w.rulings.size() == 24) return FULL;
        return rulingBy(w, paper, value, leans);
    }

    private static boolean stands(World w, int decision, int day, int without) {
        Ruling r = w.rulings.get(decision);
        if (decision == without || r.day > day || r.undone != null && r.undone <= day) return false;
        for (int other : r.leans) {
            if (!stands(w, other, day, without)) return false;
        }
        return true;
    }

    private static Set<Integer> standing(World w, int day, int without) {
        // The document's runs lean on many at once: what is found out is kept.
        Set<Integer> all = new TreeSet<>();
        for (int i = 0; i < w.rulings.size(); i++) {
            Ruling r = w.rulings.get(i);
            boolean alone = i != without && r.day <= day && (r.undone == null || r.undone > day);
            if (alone && all.containsAll(r.leans)) all.add(i);
        }
        return all;
    }

    public int is(int decision, int what) {
        if (no(decision, w.rulings.size()) || no(what, 9)) return BAD;
        Ruling r = w.rulings.get(decision);
        int now = r.leans.size() < 6 ? stands(w, decision, w.day, -1) ? 1 : 0 : standing(w, w.day, -1).contains(decision) ? 1 : 0;
        return new int[] {r.paper, r.thing, r.value, r.day, r.binds, bits(r.leans), orNone(r.undone), r.government, now}[what];
    }

    public int reopen(int decision) {
        int all = falls(decision);
        if (all != BAD && all != NO) w.rulings.get(decision).undone = w.day;
        return all;
    }

    public int falls(int decision) {
        if (no(decision, w.rulings.size())) return BAD;
        Set<Integer> now = standing(w, w.day, -1);
        if (!now.contains(decision)) return NO;
        now.removeAll(standing(w, w.day, decision));
        return bits(now);
    }

    public int current(int thing, int day) {
        if (no(thing, 10) || no(day, 1000)) return BAD;
        return orNone(standing(w, day, -1).stream().filter(i -> w.rulings.get(i).thing == thing).max(Integer::compare).orElse(null));
    }

    public int bound(int office, int thing) {
        if (no(office, w.offices) || no(thing, 10)) return BAD;
        int best = NONE;
        for (int i : standing(w, w.day, -1)) {
            if (w.rulings.get(i).thing == thing && has(w.rulings.get(i).binds, office)) best = i;
        }
        return best;
    }

    public int against(int what) {
        if (no(what, 3)) return BAD;
        List<int[]> twos = new ArrayList<>();
        for (int i : standing(w, w.day, -1)) {
            for (int j : standing(w, w.day, -1)) {
                Ruling a = w.rulings.get(i);
                Ruling b = w.rulings.get(j);
                if (i < j && a.thing == b.thing && a.value != b.value && (a.binds & b.binds) != 0) twos.add(new int[] {i, j});
            }
        }
        if (what == 0) return twos.size();
        return twos.isEmpty() ? NONE : twos.get(0)[what - 1];
    }

    public int law(int thing, int v) {
        if (no(thing, 10) || v != NONE && no(v, 100)) return BAD;
        int before = w.laws.getOrDefault(thing, NONE);
        w.laws.put(thing, v);
        return before;
    }

    public int more(int thing) {
        if (no(thing, 10)) return BAD;
        int now = current(thing, w.day);
        int law = w.laws.getOrDefault(thing, NONE);
        return law == NONE || now == NONE ? NONE : law - w.rulings.get(now).value;
    }

    private static void goBy(World w) {
        for (int i = 0; i < w.sheets.size(); i++) {
            Sheet s = w.sheets.get(i);
            if (!under(s.kind, 2) || s.sent == null || s.taken || s.table != null || s.words.containsValue(0)) continue;
            int silent = dueOf(w, s, 3);
            int table = dueOf(w, s, 0);
            if (silent > 0 && silent <= w.day - s.sent && w.rulings.size() < 24 && table < w.boards.size()) {
                s.table = table;
                s.came = w.day;
                s.silence = true;
                rulingBy(w, i, s.a, 0);
            }
        }
        w.day++;
    }

    public int run(int n) {
        if (n < 1 || n > 60) return BAD;
        if (w.day + n > 999) return FULL;
        for (int i = 0; i < n; i++) goBy(w);
        return w.day;
    }

    public int beside(int n) {
        if (no(n, 100)) return BAD;
        int many = 0;
        for (Sheet s : w.sheets) {
            if (s.table != null && s.let == null && !s.silence && s.came - s.sent < s.aheadThen + n) many++;
        }
        return many;
    }

    // ---- copies, what is shut

    public int copy(int paper, int office, int marks) {
        if (no(paper, w.sheets.size()) || no(office, w.offices) || no(marks, 65536)) return BAD;
        if (w.leaflets.size() == 20) return FULL;
        Leaflet l = new Leaflet();
        l.paper = paper;
        l.office = office;
        l.marks = marks;
        l.day = w.day;
        w.leaflets.add(l);
        return w.leaflets.size() - 1;
    }

    public int comesBack(int copy) {
        if (no(copy, w.leaflets.size())) return BAD;
        boolean was = w.leaflets.get(copy).back;
        w.leaflets.get(copy).back = true;
        return was ? 0 : 1;
    }

    public int out(int office) {
        if (no(office, w.offices)) return BAD;
        Set<Integer> all = new HashSet<>();
        for (int i = 0; i < w.leaflets.size(); i++) {
            if (w.leaflets.get(i).office == office && !w.leaflets.get(i).back) all.add(i);
        }
        return bits(all);
    }

    private static int markAt(int marks, int place) {
        for (int i = 0; i < place; i++) marks /= 4;
        return marks % 4;
    }

    public int suspect(int paper, int places, int marks) {
        if (no(paper, w.sheets.size()) || no(places, 256) || no(marks, 65536)) return BAD;
        Set<Integer> all = new HashSet<>();
        for (int i = 0; i < w.leaflets.size(); i++) {
            boolean alike = w.leaflets.get(i).paper == paper;
            for (int place = 0; place < 8; place++) {
                if (has(places, place) && markAt(w.leaflets.get(i).marks, place) != markAt(marks, place)) alike = false;
            }
            if (alike) all.add(i);
        }
        return bits(all);
    }

    public int look(int paper, int places, int marks) {
        int suspects = suspect(paper, places, marks);
        if (suspects == BAD) return BAD;
        int best = NONE;
        int least = 100;
        for (int place = 0; place < 8; place++) {
            int[] many = new int[4];
            for (int i = 0; i < w.leaflets.size(); i++) {
                if (has(suspects, i)) many[markAt(w.leaflets.get(i).marks, place)]++;
            }
            int most = Arrays.stream(many).max().getAsInt();
            if (!has(places, place) && most < least) {
                least = most;
                best = place;
            }
        }
        return best;
    }

    public int knows(int office, int day) {
        if (no(office, w.offices) || no(day, 1000)) return BAD;
        Set<Integer> all = new HashSet<>();
        for (int i = 0; i < w.sheets.size(); i++) {
            Sheet s = w.sheets.get(i);
            if (s.office == office) all.add(i);
            if (s.table != null && s.came <= day && has(w.boards.get(s.table).seats, office)) all.add(i);
        }
        for (Leaflet l : w.leaflets) {
            if (l.office == office && l.day <= day) all.add(l.paper);
        }
        return bits(all);
    }

    private static Set<Integer> opened(World w) {
        Set<Integer> all = new HashSet<>();
        for (int i = 0; i < w.sheets.size(); i++) {
            Sheet s = w.sheets.get(i);
            if (s.sent != null && w.day - s.sent >= dueOf(w, s, 4)) all.add(i);
        }
        return all;
    }

    public int open() {
        return bits(opened(w));
    }

    public int group(int set) {
        if (set < 1 || set > 16777215) return BAD;
        if (w.groups.size() == 8) return FULL;
        w.groups.add(set);
        return w.groups.size() - 1;
    }

    public int reckoned() {
        Set<Integer> known = opened(w);
        boolean again = true;
        while (again) {
            again = false;
            for (int group : w.groups) {
                Set<Integer> unknown = new HashSet<>();
                for (int i = 0; i < w.sheets.size(); i++) {
                    if (has(group, i) && !known.contains(i)) unknown.add(i);
                }
                if (unknown.size() == 1) again = known.addAll(unknown);
            }
        }
        known.removeAll(opened(w));
        return bits(known);
    }

    // ---- registers, the room

    public int register(int register, int sort, int n) {
        if (no(register, 4) || sort < -1 || sort > 1) return BAD;
        if (sort == -1) {
            registers[register] = null;
            return 0;
        }
        if (n > 24) return BAD;
        if (n < 0) return SIZE;
        registers[register] = sort == 0 ? new byte[n] : new short[n];
        return n;
    }

    public int note(int register, int place, int v) {
        if (no(register, 4)) return BAD;
        try {
            if (registers[register] instanceof byte[] row) {
                int before = row[place];
                row[place] = (byte) v;
                return before;
            }
            if (registers[register] instanceof short[] row) {
                int before = row[place];
                row[place] = (short) v;
                return before;
            }
            return NOTHING;
        } catch (ArrayIndexOutOfBoundsException e) {
            return INDEX;
        }
    }

    public int carry(int from, int place, int to, int at, int many) {
        if (no(from, 4) || no(to, 4)) return BAD;
        try {
            System.arraycopy(registers[from], place, registers[to], at, many);
            return many;
        } catch (NullPointerException e) {
            return NOTHING;
        } catch (ArrayStoreException e) {
            return KIND;
        } catch (ArrayIndexOutOfBoundsException e) {
            return INDEX;
        }
    }

    private static int lies(Object o) {
        if (o == null) return 0;
        if (o instanceof Sheet) return 1;
        return o instanceof Integer ? 3 : 2;
    }

    public int lay(int seat, int thing, int k) {
        if (no(seat, 6) || no(thing, 4)) return BAD;
        if (thing == 1 && no(k, w.sheets.size()) || thing == 2 && no(k, 4)) return BAD;
        if (thing == 2 && registers[k] == null) return NOTHING;
        int before = lies(room[seat]);
        if (thing == 0) room[seat] = null;
        if (thing == 1) room[seat] = w.twin().sheets.get(k);
        if (thing == 2) room[seat] = registers[k] instanceof byte[] row ? row.clone() : ((short[]) registers[k]).clone();
        if (thing == 3) room[seat] = k;
        return before;
    }

    public int ask(int seat, int kind) {
        if (no(seat, 6) || no(kind, 5)) return BAD;
        if (room[seat] == null) return NOTHING;
        if (!(room[seat] instanceof Sheet s) || !under(s.kind, kind)) return KIND;
        return weighs(s, s.kind);
    }

    public int item(int seat, int place) {
        if (no(seat, 6)) return BAD;
        if (room[seat] == null) return NOTHING;
        if (room[seat] instanceof byte[] row) return no(place, row.length) ? INDEX : row[place];
        if (room[seat] instanceof short[] row) return no(place, row.length) ? INDEX : row[place];
        return KIND;
    }

    public int rest(int seat, int n) {
        if (no(seat, 6)) return BAD;
        if (room[seat] == null) return NOTHING;
        if (!(room[seat] instanceof Integer k)) return KIND;
        return n == 0 ? NO : (int) ((long) k - (long) k / n * n);
    }

    // ---- rows, images

    public int tell(int v) {
        if (waiting.size() == 60) return FULL;
        waiting.add(v);
        return waiting.size();
    }

    public int check(int n) {
        List<Integer> row = new ArrayList<>(waiting);
        waiting.clear();
        if (n < 1 || n > 28) return BAD;
        if (image == null) return NO;
        World later = image.twin();
        List<Integer> want = new ArrayList<>();
        for (int i = 0; i < n; i++) {
            goBy(later);
            want.add(standing(later, later.day, -1).size());
            want.add(opened(later).size());
        }
        if (row.equals(want)) return 0;
        int right = 0;
        while (right < row.size() && right < want.size() && row.get(right).equals(want.get(right))) right++;
        return 1 + right;
    }

    public int keep() {
        image = w.twin();
        return w.day;
    }

    public int back() {
        if (image == null) return NO;
        w = image.twin();
        return w.day;
    }

    public int count(int what) {
        if (no(what, 16)) return BAD;
        int[] all = {
            w.offices, w.boards.size(), w.sheets.size(), (int) w.sheets.stream().filter(s -> s.sent != null).count(),
            (int) w.sheets.stream().filter(s -> s.table != null).count(), w.rules.size(), w.rulings.size(), standing(w, w.day, -1).size(),
            w.leaflets.size(), (int) w.leaflets.stream().filter(l -> !l.back).count(), w.groups.size(), w.changes.size(), waiting.size(),
            tape.length(), w.day, w.government,
        };
        return all[what];
    }

    /** What a right row of numbers for check(n) would be, for a test that wants one. */
    int[] daysTold(int n) {
        World later = image == null ? w.twin() : image.twin();
        int[] row = new int[2 * n];
        for (int i = 0; i < n; i++) {
            goBy(later);
            row[2 * i] = standing(later, later.day, -1).size();
            row[2 * i + 1] = opened(later).size();
        }
        return row;
    }

    private static boolean no(int v, int end) {
        return v < 0 || v >= end;
    }

    private static boolean has(int set, int i) {
        return (set >> i & 1) == 1;
    }

    private static int bits(Set<Integer> set) {
        int all = 0;
        for (int i : set) all |= 1 << i;
        return all;
    }
}
