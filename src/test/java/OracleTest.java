import java.math.BigInteger;
import java.util.ArrayList;
import java.util.Arrays;
import java.util.HashMap;
import java.util.LinkedHashMap;
import java.util.List;
import java.util.Map;
import java.util.NoSuchElementException;
import java.util.Random;

/**
 * Random runs of calls, each answer compared with a second, naive reading of the document: an own
 * parser that throws, maps of histories instead of tables, and plain enumeration where it is short.
 */
public final class OracleTest {
    static final int REST = -1;

    // ---------------------------------------------------------------- the naive model

    static final class Fault extends RuntimeException {
        final int code;
        Fault(int kind, int place) {
            super(null, null, false, false);
            code = kind + 16 * place;
        }
    }

    record Token(char type, String text, int place) {
        boolean is(String s) {
            return (type == 'w' || type == 's') && text.equals(s);
        }
    }

    interface Expr {
        int of(Map<String, Integer> facts);
    }

    record Echo(int late, String way, int by, String pace, int back) {
        int give(int note) {
            return way.equals("up") ? note + by : way.equals("down") ? note - by : 2 * by - note;
        }
    }

    static final class Cliff {
        int notes = 7;
        int meter = 4;
        List<Echo> echoes = new ArrayList<>();
        List<Expr> law = new ArrayList<>();
        List<Expr> leap = new ArrayList<>();
        List<Expr> pair = new ArrayList<>();

        boolean plain() {
            return echoes.stream().allMatch(e -> e.pace.isEmpty() && e.back == 0);
        }

        int depth() {
            int d = echoes.stream().mapToInt(Echo::late).max().orElse(0);
            if (!pair.isEmpty()) {
                d++;
            }
            return Math.max(1, d);
        }

        boolean tables() {
            return plain() && BigInteger.valueOf(notes + 1).pow(depth()).compareTo(BigInteger.valueOf(4096)) <= 0;
        }
    }

    static final class Parser {
        final List<Token> tokens = new ArrayList<>();
        final String text;
        int at;
        String line;

        Parser(String text) {
            this.text = text;
            java.util.regex.Matcher m = java.util.regex.Pattern.compile("[a-z]+|[0-9]+|[^ \\n]").matcher(text);
            while (m.find()) {
                String t = m.group();
                char c = t.charAt(0);
                char type = c >= 'a' && c <= 'z' ? (t.length() <= 8 ? 'w' : '?')
                    : c >= '0' && c <= '9' ? (t.length() <= 4 ? 'n' : '?')
                    : "()<=+-*;".indexOf(c) >= 0 ? 's' : '?';
                tokens.add(new Token(type, t, m.start()));
            }
            tokens.add(new Token('e', "", text.length()));
        }

        Token look() {
            return tokens.get(at);
        }

        Fault wrong(int kind) {
            return new Fault(kind, look().place);
        }

        boolean take(String s) {
            if (look().is(s)) {
                at++;
                return true;
            }
            return false;
        }

        void need(String s) {
            if (!take(s)) {
                throw wrong(1);
            }
        }

        int number(int low, int high) {
            if (look().type != 'n') {
                throw wrong(1);
            }
            int v = Integer.parseInt(look().text);
            if (v < low || v > high) {
                throw wrong(4);
            }
            at++;
            return v;
        }

        Cliff cliff() {
            Cliff c = new Cliff();
            boolean notes = false;
            boolean meter = false;
            while (look().type != 'e') {
                if (look().is("notes")) {
                    if (notes) {
                        throw wrong(3);
                    }
                    at++;
                    notes = true;
                    c.notes = number(2, 12);
                } else if (look().is("meter")) {
                    if (meter) {
                        throw wrong(3);
                    }
                    at++;
                    meter = true;
                    c.meter = number(1, 8);
                } else if (look().is("echo")) {
                    if (c.echoes.size() == 8) {
                        throw wrong(5);
                    }
                    at++;
                    need("late");
                    int late = number(1, 64);
                    String way = look().text;
                    if (!List.of("up", "down", "turn").contains(way)) {
                        throw wrong(1);
                    }
                    at++;
                    int by = number(0, 24);
                    String pace = take("twice") ? "twice" : take("half") ? "half" : "";
                    int back = take("back") ? number(1, 200) : 0;
                    c.echoes.add(new Echo(late, way, by, pace, back));
                } else if (look().is("law") || look().is("leap") || look().is("pair")) {
                    line = look().text;
                    List<Expr> to = line.equals("law") ? c.law : line.equals("leap") ? c.leap : c.pair;
                    if (to.size() == (line.equals("law") ? 4 : 2)) {
                        throw wrong(5);
                    }
                    at++;
                    to.add(e(0));
                } else {
                    throw wrong(1);
                }
                need(";");
            }
            return c;
        }

        Expr e(int deep) {
            Expr left = test(deep);
            while (true) {
                Expr l = left;
                if (take("and")) {
                    Expr r = test(deep);
                    left = f -> (l.of(f) != 0 & r.of(f) != 0) ? 1 : 0;
                } else if (take("or")) {
                    Expr r = test(deep);
                    left = f -> (l.of(f) != 0 | r.of(f) != 0) ? 1 : 0;
                } else {
                    return left;
                }
            }
        }

        Expr test(int deep) {
            Expr l = sum(deep);
            if (take("<")) {
                Expr r = sum(deep);
                return f -> l.of(f) < r.of(f) ? 1 : 0;
            }
            if (take("=")) {
                Expr r = sum(deep);
                return f -> l.of(f) == r.of(f) ? 1 : 0;
            }
            return l;
        }

        Expr sum(int deep) {
            Expr left = product(deep);
            while (true) {
                Expr l = left;
                if (take("+")) {
                    Expr r = product(deep);
                    left = f -> l.of(f) + r.of(f);
                } else if (take("-")) {
                    Expr r = product(deep);
                    left = f -> l.of(f) - r.of(f);
                } else {
                    return left;
                }
            }
        }

        Expr product(int deep) {
            Expr left = part(deep);
            while (take("*")) {
                Expr l = left;
                Expr r = part(deep);
                left = f -> l.of(f) * r.of(f);
            }
            return left;
        }

        Expr part(int deep) {
            String facts = line.equals("law") ? " strong apart " : line.equals("leap") ? " strong move "
                : " strong apart was move other ";
            Token t = look();
            boolean fact = t.type == 'w' && facts.contains(" " + t.text + " ");
            if (t.type != 'n' && !fact && !t.is("not") && !t.is("(")) {
                throw wrong(1);
            }
            if (deep == 5) {
                throw wrong(5);
            }
            at++;
            if (t.type == 'n') {
                int v = Integer.parseInt(t.text);
                return f -> v;
            }
            if (fact) {
                return f -> f.get(t.text);
            }
            if (t.is("not")) {
                Expr p = part(deep + 1);
                return f -> p.of(f) == 0 ? 1 : 0;
            }
            Expr p = e(deep + 1);
            need(")");
            return p;
        }

        List<Integer> draft(int notes) {
            List<Integer> all = new ArrayList<>();
            items(all, 0, 0, notes);
            if (look().type != 'e') {
                throw wrong(1);
            }
            return all;
        }

        void items(List<Integer> all, int deep, int lead, int notes) {
            while (true) {
                Token t = look();
                if (t.type == 'n') {
                    int v = Integer.parseInt(t.text) + lead;
                    if (v < 0 || v >= notes) {
                        throw wrong(4);
                    }
                    if (deep == 5 || all.size() == 200) {
                        throw wrong(5);
                    }
                    all.add(v);
                    at++;
                } else if (t.is("rest")) {
                    if (deep == 5 || all.size() == 200) {
                        throw wrong(5);
                    }
                    all.add(REST);
                    at++;
                } else if (t.is("again") || t.is("up") || t.is("down")) {
                    if (deep == 5) {
                        throw wrong(5);
                    }
                    at++;
                    int n = t.is("again") ? number(1, 99) : number(0, 24);
                    need("(");
                    int from = all.size();
                    items(all, deep + 1, t.is("up") ? lead + n : t.is("down") ? lead - n : lead, notes);
                    if (!look().is(")")) {
                        throw wrong(1);
                    }
                    if (t.is("again")) {
                        List<Integer> once = new ArrayList<>(all.subList(from, all.size()));
                        for (int i = 1; i < n; i++) {
                            all.addAll(once);
                        }
                    }
                    if (all.size() > 200) {
                        throw wrong(5);
                    }
                    at++;
                } else {
                    return;
                }
            }
        }
    }

    interface Song {
        /** The note of a BEAT, REST for none. */
        int at(int beat);
    }

    static Integer sound(Cliff c, Song s, int voice, int t) {
        if (voice == 0) {
            return s.at(t) == REST ? null : Integer.valueOf(s.at(t));
        }
        Echo e = c.echoes.get(voice - 1);
        if (t < e.late) {
            return null;
        }
        int b = t - e.late;
        b = e.pace.equals("twice") ? b / 2 : e.pace.equals("half") ? 2 * b : b;
        if (e.back > 0 && b >= e.back || s.at(b) == REST) {
            return null;
        }
        return e.give(s.at(b));
    }

    static Map<String, Integer> facts(Object... kv) {
        Map<String, Integer> m = new HashMap<>();
        for (int i = 0; i < kv.length; i += 2) {
            m.put((String) kv[i], (Integer) kv[i + 1]);
        }
        return m;
    }

    static int[] broken(List<Expr> lines, Map<String, Integer> facts, int a, int b, int kind) {
        for (int i = 0; i < lines.size(); i++) {
            if (lines.get(i).of(facts) == 0) {
                return new int[] {a, b, kind, i};
            }
        }
        return null;
    }

    /** VOICES, kind and line of the first fault of the voices that sound now and sounded before. */
    static int[] faultIn(Cliff c, Integer[] now, Integer[] old, int beat, boolean leaps) {
        int strong = Math.floorMod(beat, c.meter) == 0 ? 1 : 0;
        if (leaps && now[0] != null && old[0] != null) {
            int[] f = broken(c.leap, facts("strong", strong, "move", now[0] - old[0]), 0, 0, 0);
            if (f != null) {
                return f;
            }
        }
        for (int a = 0; a < now.length; a++) {
            for (int b = a + 1; b < now.length; b++) {
                if (now[a] == null || now[b] == null) {
                    continue;
                }
                int apart = Math.abs(now[a] - now[b]);
                int[] f = broken(c.law, facts("strong", strong, "apart", apart), a, b, 1);
                if (f == null && old[a] != null && old[b] != null) {
                    f = broken(c.pair, facts("strong", strong, "apart", apart, "was", Math.abs(old[a] - old[b]),
                        "move", now[a] - old[a], "other", now[b] - old[b]), a, b, 2);
                }
                if (f != null) {
                    return f;
                }
            }
        }
        return null;
    }

    static int[] faultAt(Cliff c, Song s, int t) {
        Integer[] now = new Integer[1 + c.echoes.size()];
        Integer[] old = new Integer[now.length];
        for (int v = 0; v < now.length; v++) {
            now[v] = sound(c, s, v, t);
            old[v] = t == 0 ? null : sound(c, s, v, t - 1);
        }
        return faultIn(c, now, old, t, true);
    }

    static Song songOf(List<Integer> notes) {
        return b -> b < 0 || b >= notes.size() ? REST : notes.get(b);
    }

    static final int FAR = 470;

    static int[] clashOf(Cliff c, List<Integer> notes) {
        Song s = songOf(notes);
        int far = Math.min(FAR, notes.size() * 2 + 66);
        for (int t = 0; t < far; t++) {
            int[] f = faultAt(c, s, t);
            if (f != null) {
                return new int[] {t, f[0], f[1], f[2], f[3]};
            }
        }
        return null;
    }

    /** Whether BEAT size - 1 of a row is kept; only the last DEPTH + 1 notes of it matter. */
    static boolean lastKept(Cliff c, List<Integer> notes) {
        return faultAt(c, songOf(notes), notes.size() - 1) == null;
    }

    static final class Model {
        String tape = "";
        Cliff cliff = new Cliff();
        List<Integer> tune = new ArrayList<>();
        Map<Integer, Integer> fixed = new HashMap<>();
        Object[][] marks = new Object[4][];

        int feed(long a, long b, long c) {
            byte[] bytes = java.nio.ByteBuffer.allocate(24).putLong(a).putLong(b).putLong(c).array();
            for (byte x : bytes) {
                int v = x & 255;
                if ((v == 10 || v >= 32 && v <= 126) && tape.length() < 1000) {
                    tape += (char) v;
                }
            }
            return tape.length();
        }

        int readCliff() {
            String text = tape;
            tape = "";
            try {
                cliff = new Parser(text).cliff();
                tune = new ArrayList<>();
                fixed = new HashMap<>();
                return 0;
            } catch (Fault f) {
                return f.code;
            }
        }

        int readDraft() {
            String text = tape;
            tape = "";
            try {
                tune = new Parser(text).draft(cliff.notes);
                return 0;
            } catch (Fault f) {
                return f.code;
            }
        }

        int end() {
            for (int t = FAR; t >= 0; t--) {
                for (int v = 0; v <= cliff.echoes.size(); v++) {
                    if (sound(cliff, songOf(tune), v, t) != null) {
                        return t;
                    }
                }
            }
            return -1;
        }

        int clashes() {
            int n = 0;
            for (int t = 0; t <= FAR; t++) {
                n += faultAt(cliff, songOf(tune), t) != null ? 1 : 0;
            }
            return n;
        }

        List<Integer> choices(int beat, boolean useFixed) {
            if (useFixed && fixed.containsKey(beat)) {
                return List.of(fixed.get(beat));
            }
            List<Integer> all = new ArrayList<>();
            for (int i = 0; i < cliff.notes; i++) {
                all.add(i);
            }
            return all;
        }

        // A history is the last DEPTH entries; the BEATS ahead of it are padded with rests.
        boolean keptAfter(List<Integer> history, int x, int beat) {
            int pad = 80;
            int shift = Math.floorMod(beat - pad, cliff.meter);
            Song s = b -> {
                int back = pad + shift - b;
                return back == 0 ? x : back < 0 || back > history.size() ? REST : history.get(history.size() - back);
            };
            return faultAtFar(s, pad + shift);
        }

        boolean faultAtFar(Song s, int t) {
            return faultAt(cliff, s, t) == null;
        }

        List<Integer> push(List<Integer> history, int x) {
            List<Integer> h = new ArrayList<>(history.subList(1, history.size()));
            h.add(x);
            return h;
        }

        List<Integer> nothing() {
            List<Integer> h = new ArrayList<>();
            for (int i = 0; i < cliff.depth(); i++) {
                h.add(REST);
            }
            return h;
        }

        boolean tail(List<Integer> h, int beat) {
            for (int i = 0; i < cliff.depth(); i++) {
                if (!keptAfter(h, REST, beat + i)) {
                    return false;
                }
                h = push(h, REST);
            }
            return true;
        }

        BigInteger many(int n) {
            Map<List<Integer>, BigInteger> now = new HashMap<>();
            now.put(nothing(), BigInteger.ONE);
            for (int t = 0; t < n; t++) {
                Map<List<Integer>, BigInteger> next = new HashMap<>();
                for (Map.Entry<List<Integer>, BigInteger> e : now.entrySet()) {
                    for (int x : choices(t, true)) {
                        if (keptAfter(e.getKey(), x, t)) {
                            next.merge(push(e.getKey(), x), e.getValue(), BigInteger::add);
                        }
                    }
                }
                now = next;
            }
            BigInteger sum = BigInteger.ZERO;
            for (Map.Entry<List<Integer>, BigInteger> e : now.entrySet()) {
                if (tail(e.getKey(), n)) {
                    sum = sum.add(e.getValue());
                }
            }
            return sum;
        }

        record Best(int cost, List<Integer> row) {
        }

        static int compareRows(List<Integer> a, List<Integer> b) {
            for (int i = 0; i < a.size(); i++) {
                if (!a.get(i).equals(b.get(i))) {
                    return Integer.compare(a.get(i), b.get(i));
                }
            }
            return 0;
        }

        /** The best whole row to each history, forward; rows are kept and compared as they are. */
        Best best(int n, boolean motion) {
            Map<List<Integer>, Best> now = new LinkedHashMap<>();
            now.put(nothing(), new Best(0, List.of()));
            for (int t = 0; t < n; t++) {
                Map<List<Integer>, Best> next = new LinkedHashMap<>();
                List<Integer> xs = motion ? choices(t, true)
                    : tune.get(t) == REST ? List.of(REST) : choices(t, false);
                for (Map.Entry<List<Integer>, Best> e : now.entrySet()) {
                    for (int x : xs) {
                        if (!keptAfter(e.getKey(), x, t)) {
                            continue;
                        }
                        int last = t == 0 ? REST : e.getValue().row.get(t - 1);
                        int more = motion ? (last == REST || x == REST ? 0 : Math.abs(x - last))
                            : (x == tune.get(t) ? 0 : 1);
                        List<Integer> row = new ArrayList<>(e.getValue().row);
                        row.add(x);
                        Best b = new Best(e.getValue().cost + more, row);
                        next.merge(push(e.getKey(), x), b, OracleTest.Model::better);
                    }
                }
                now = next;
            }
            Best best = null;
            for (Map.Entry<List<Integer>, Best> e : now.entrySet()) {
                if (tail(e.getKey(), n)) {
                    best = best == null ? e.getValue() : better(best, e.getValue());
                }
            }
            return best;
        }

        static Best better(Best a, Best b) {
            if (a.cost != b.cost) {
                return a.cost < b.cost ? a : b;
            }
            return compareRows(a.row, b.row) <= 0 ? a : b;
        }

        /** The first 1,000 notes of the ENDLESS row; or, in a list of one below 0, -1 less LONGEST. */
        List<Integer> endless() {
            Map<List<Integer>, List<Integer>> edges = new LinkedHashMap<>();
            List<Integer> start = new ArrayList<>(nothing());
            start.add(0);
            List<List<Integer>> todo = new ArrayList<>(List.of(start));
            int most = 0;
            Map<List<Integer>, Integer> level = new HashMap<>();
            while (!todo.isEmpty()) {
                List<Integer> node = todo.remove(todo.size() - 1);
                if (edges.containsKey(node)) {
                    continue;
                }
                int phase = node.get(node.size() - 1);
                List<Integer> h = node.subList(0, node.size() - 1);
                List<Integer> xs = new ArrayList<>();
                for (int x = 0; x < cliff.notes; x++) {
                    if (keptAfter(h, x, phase)) {
                        xs.add(x);
                    }
                }
                edges.put(node, xs);
                for (int x : xs) {
                    todo.add(step(node, x));
                }
            }
            // Takes away, round by round, what leads to nothing: the round is how far one comes.
            boolean changed = true;
            for (int round = 0; changed; round++) {
                changed = false;
                Map<List<Integer>, Integer> gone = new HashMap<>();
                for (Map.Entry<List<Integer>, List<Integer>> e : edges.entrySet()) {
                    if (!level.containsKey(e.getKey())
                        && e.getValue().stream().allMatch(x -> level.containsKey(step(e.getKey(), x)))) {
                        gone.put(e.getKey(), round);
                        changed = true;
                    }
                }
                level.putAll(gone);
            }
            if (level.containsKey(start)) {
                return List.of(-1 - level.get(start));
            }
            List<Integer> row = new ArrayList<>();
            List<Integer> node = start;
            for (int i = 0; i < 1000; i++) {
                for (int x : edges.get(node)) {
                    if (!level.containsKey(step(node, x))) {
                        row.add(x);
                        node = step(node, x);
                        break;
                    }
                }
            }
            return row;
        }

        List<Integer> step(List<Integer> node, int x) {
            List<Integer> h = push(node.subList(0, node.size() - 1), x);
            h.add((node.get(node.size() - 1) + 1) % cliff.meter);
            return h;
        }

        boolean canRound(int k) {
            return k >= 1 && k <= 8 && Math.pow(cliff.notes, k) <= 20000.5 && cliff.plain();
        }

        /** All ROUNDS of k BEATS in their order. */
        List<List<Integer>> rounds(int k) {
            List<List<Integer>> found = new ArrayList<>();
            int[] row = new int[k];
            while (true) {
                int[] r = row;
                Song s = b -> r[Math.floorMod(b, k)];
                boolean ok = true;
                int from = 10 * k * cliff.meter;
                while (from < 70) {
                    from += k * cliff.meter;
                }
                for (int t = from; t < from + k * cliff.meter && ok; t++) {
                    ok = faultAt(cliff, s, t) == null;
                }
                if (ok) {
                    List<Integer> l = new ArrayList<>();
                    for (int x : row) {
                        l.add(x);
                    }
                    found.add(l);
                }
                int i = k - 1;
                while (i >= 0 && row[i] == cliff.notes - 1) {
                    row[i--] = 0;
                }
                if (i < 0) {
                    return found;
                }
                row[i]++;
            }
        }

        int delays(int n, boolean turned) {
            int bits = 0;
            for (int d = 1; d <= 31; d++) {
                Cliff c = new Cliff();
                c.notes = cliff.notes;
                c.meter = cliff.meter;
                c.law = cliff.law;
                c.leap = cliff.leap;
                c.pair = cliff.pair;
                c.echoes = List.of(new Echo(d, turned ? "turn" : "up", n, "", 0));
                bits |= clashOf(c, tune) == null ? 1 << d : 0;
            }
            return bits;
        }

        int choir(int seed, int singers, int what) {
            if (seed < 0 || seed > 9999 || singers < 2 || singers > 6) {
                return -1;
            }
            BigInteger g = BigInteger.valueOf(seed);
            int[] start = new int[singers];
            int[] up = new int[singers];
            for (int i = 0; i < 2 * singers; i++) {
                g = g.multiply(BigInteger.valueOf(1103515245)).add(BigInteger.valueOf(12345))
                    .mod(BigInteger.TWO.pow(31));
                int high = g.shiftRight(16).intValue();
                if (i % 2 == 0) {
                    start[i / 2] = high % 16;
                } else {
                    up[i / 2] = high % cliff.notes;
                }
            }
            if (what >= 2 && what - 2 < singers) {
                return start[what - 2];
            }
            if (what >= 8 && what - 8 < singers) {
                return up[what - 8];
            }
            if (what != 0 && what != 1) {
                return -1;
            }
            int many = 0;
            int first = -1;
            for (int t = 0; t < 230; t++) {
                Integer[] now = new Integer[singers];
                Integer[] old = new Integer[singers];
                for (int v = 0; v < singers; v++) {
                    int a = songOf(tune).at(t - start[v]);
                    int b = songOf(tune).at(t - 1 - start[v]);
                    now[v] = a == REST ? null : Integer.valueOf(a + up[v]);
                    old[v] = b == REST ? null : Integer.valueOf(b + up[v]);
                }
                if (faultIn(cliff, now, old, t, false) != null) {
                    many++;
                    first = first < 0 ? t : first;
                }
            }
            return what == 0 ? many : first;
        }
    }

    // ---------------------------------------------------------------- texts

    static final Random dice = new Random(20261118);

    static int below(int n) {
        return dice.nextInt(n);
    }

    static String pick(String... of) {
        return of[below(of.length)];
    }

    static String fact(String line) {
        return line.equals("law") ? pick("apart", "apart", "strong") : line.equals("leap")
            ? pick("move", "move", "strong") : pick("apart", "was", "move", "other", "strong");
    }

    static String part(String line, int deep) {
        int r = below(10);
        if (deep < 4 && r == 0) {
            return "not " + part(line, deep + 1);
        }
        if (deep < 4 && r == 1) {
            return "( " + expr(line, deep + 1) + " )";
        }
        return r < 6 ? fact(line) : "" + (below(20) == 0 ? below(10000) : below(8));
    }

    static String sum(String line, int deep) {
        StringBuilder s = new StringBuilder(part(line, deep));
        while (below(4) == 0) {
            s.append(pick(" + ", " - ", "*")).append(part(line, deep));
        }
        return s.toString();
    }

    static String expr(String line, int deep) {
        StringBuilder s = new StringBuilder(sum(line, deep));
        if (below(3) > 0) {
            s.append(pick(" < ", " = ", "=")).append(sum(line, deep));
        }
        while (below(3) == 0) {
            s.append(pick(" and ", " or ", " or ")).append(sum(line, deep));
            if (below(3) > 0) {
                s.append(pick("<", " = ")).append(sum(line, deep));
            }
        }
        return s.toString();
    }

    static String someLine(String line) {
        if (below(3) == 0) {
            return line + " " + expr(line, 0) + " ;";
        }
        return switch (line) {
            case "law" -> "law " + pick("not ( apart = 1 )", "apart < 6", "strong = 0 or not ( apart = 2 )",
                "0 < apart", "not ( apart - 1 ) * ( apart - 6 ) = 0 + strong", "apart") + ";";
            case "leap" -> "leap " + pick("move < 3 and 0 - 3 < move", "move", "move < 2", "0 - 1 < move or strong",
                "not ( move = 0 ) or not strong", "move * move < 5") + " ; ";
            default -> "pair " + pick("not ( apart = was and move = other )", "not ( move = other ) or move = 0",
                "apart + was", "not ( move = 0 and other = 0 )", "was < 5 or strong", "apart - was < 3") + " ; ";
        };
    }

    static String echo(int mostLate, boolean plain) {
        return "echo late " + (1 + below(mostLate)) + " " + pick("up", "down", "turn") + " " + below(below(3) == 0 ? 25 : 5)
            + (plain || below(2) == 0 ? "" : pick(" twice", " half"))
            + (plain || below(2) == 0 ? "" : " back " + (1 + below(below(2) == 0 ? 12 : 200))) + " ;\n";
    }

    static String cliffText(boolean small) {
        StringBuilder s = new StringBuilder();
        if (below(8) > 0) {
            s.append("notes ").append(small ? 2 + below(4) : 2 + below(11)).append(" ; ");
        }
        if (below(4) > 0) {
            s.append("meter ").append(1 + below(8)).append("; ");
        }
        int echoes = below(5) == 0 ? below(9) : below(3);
        boolean plain = below(4) > 0;
        int mostLate = below(12) == 0 ? 64 : below(3) == 0 ? 5 : 2;
        for (int i = 0; i < echoes; i++) {
            s.append(echo(mostLate, plain));
        }
        for (String line : new String[] {"law", "leap", "pair"}) {
            int n = below(3);
            n = line.equals("law") && below(6) == 0 ? 4 : n == 2 && below(2) == 0 ? 1 : n;
            for (int i = 0; i < n; i++) {
                s.append(someLine(line));
            }
        }
        return s.toString();
    }

    static String items(int notes, int deep, int lead) {
        StringBuilder s = new StringBuilder();
        int n = 1 + below(5);
        for (int i = 0; i < n; i++) {
            int r = below(9);
            if (r == 0 && deep < 5) {
                s.append("again ").append(1 + below(below(10) == 0 ? 60 : 4)).append("(").append(items(notes, deep + 1, lead)).append(") ");
            } else if (r == 1 && deep < 5) {
                int by = below(below(4) == 0 ? 25 : 3);
                boolean up = below(2) == 0;
                s.append(up ? "up " : "down ").append(by).append(" ( ")
                    .append(items(notes, deep + 1, up ? lead + by : lead - by)).append(" ) ");
            } else if (r == 2) {
                s.append("rest ");
            } else {
                int v = below(notes) - lead;
                s.append(v < 0 ? "rest" : "" + v).append(" ");
            }
        }
        return s.toString();
    }

    static String spoil(String s) {
        int times = below(3);
        StringBuilder b = new StringBuilder(s);
        for (int i = 0; i < times && b.length() > 0; i++) {
            int at = below(b.length());
            switch (below(4)) {
                case 0 -> b.deleteCharAt(at);
                case 1 -> b.insert(at, pick(" ", ";", "(", ")", "9", "x", "%", " not ", " law ", " 13 ", "\n", "<", " again "));
                case 2 -> b.delete(at, Math.min(b.length(), at + 1 + below(6)));
                default -> b.insert(at, b.substring(below(at + 1), at));
            }
        }
        return b.toString();
    }

    // ---------------------------------------------------------------- runs

    static int wrong = 0;
    static long calls = 0;
    static StringBuilder log = new StringBuilder();

    static void same(String call, long got, long due) {
        calls++;
        log.append(call).append(" -> ").append(due).append('\n');
        if (got != due) {
            wrong++;
            if (wrong <= 3) {
                System.out.println("---- a run:\n" + log);
                System.out.println(call + " answered " + got + ", due is " + due);
            }
        }
    }

    static void tell(EchoTune x, Model m, String text) {
        for (int i = 0; i < text.length(); i += 24) {
            long[] w = new long[3];
            for (int j = 0; j < 24; j++) {
                long sign = i + j < text.length() ? text.charAt(i + j) : below(3) == 0 ? 127 + below(100) : 0;
                w[j / 8] = w[j / 8] << 8 | sign;
            }
            same("feed", x.feed(w[0], w[1], w[2]), m.feed(w[0], w[1], w[2]));
        }
        log.append("  that is: ").append(text).append('\n');
    }

    static void asks(EchoTune x, Model m, boolean tables) {
        for (int i = -1; i < 10; i++) {
            Cliff c = m.cliff;
            int[] due = {-1, c.notes, c.meter, c.echoes.size(), c.law.size(), c.leap.size(), c.pair.size(),
                m.tune.size(), m.fixed.size(), m.tape.length(), -1};
            same("count " + i, x.count(i), due[i + 1]);
        }
        same("end", x.end(), m.end());
        int[] clash = clashOf(m.cliff, m.tune);
        for (int i = -1; i < 6; i++) {
            same("clash " + i, x.clash(i), clash == null || i < 0 || i > 4 ? -1 : clash[i]);
        }
        same("clashes", x.clashes(), m.clashes());
        for (int i = 0; i < 12; i++) {
            int v = below(m.cliff.echoes.size() + 3) - 1;
            int t = below(10) == 0 ? dice.nextInt() : below(2 * m.tune.size() + 20) - 3;
            Integer due = v < 0 || v > m.cliff.echoes.size() || t < 0 || t > 500 ? null
                : sound(m.cliff, songOf(m.tune), v, t);
            long got;
            try {
                got = x.voice(v, t);
            } catch (NoSuchElementException e) {
                got = 1L << 40;
            }
            same("voice " + v + " " + t, got, due == null ? 1L << 40 : due);
        }
        for (int i = 0; i < 5; i++) {
            int t = below(m.tune.size() + 4) - 2;
            same("note " + t, x.note(t), t < 0 || t >= m.tune.size() ? -2 : m.tune.get(t));
        }
        int n = below(55) - 27;
        boolean turned = below(2) == 0;
        boolean fine = n <= 24 && n >= (turned ? 0 : -24);
        same("delays " + n + turned, x.delays(n, turned), fine ? m.delays(n, turned) : -1);
        int seed = below(20) == 0 ? dice.nextInt() : below(10000);
        int singers = 1 + below(7);
        for (int i = -1; i < 15; i++) {
            same("choir " + seed + " " + singers + " " + i, x.choir(seed, singers, i), m.choir(seed, singers, i));
        }
        if (tables) {
            askTables(x, m);
            askRounds(x, m);
        }
    }

    static void askTables(EchoTune x, Model m) {
        boolean there = m.cliff.tables();
        same("depth", x.depth(), there ? m.cliff.depth() : -1);
        boolean cheap = there && Math.pow(m.cliff.notes, m.cliff.depth()) <= 300;
        if (there && !cheap) {
            return;
        }
        int n = below(10) == 0 ? below(64) - 1 : 1 + below(8);
        boolean good = there && n >= 1 && n <= 60;
        BigInteger many = good ? m.many(n) : null;
        for (int p = -1; p < 9; p++) {
            long due = !good || p < 0 || p > 7 ? -1
                : many.divide(BigInteger.TEN.pow(9 * p)).mod(BigInteger.TEN.pow(9)).longValue();
            same("many " + n + " " + p, x.many(n, p), due);
        }
        Model.Best least = good ? m.best(n, true) : null;
        same("least " + n, x.least(n), least == null ? -1 : least.cost);
        for (int t = -1; t <= n; t++) {
            same("leastAt " + n + " " + t, x.leastAt(n, t), least == null || t < 0 || t >= n ? -2 : least.row.get(t));
        }
        boolean length = there && m.tune.size() >= 1 && m.tune.size() <= 60;
        Model.Best mend = length ? m.best(m.tune.size(), false) : null;
        same("mend", x.mend(), mend == null ? -1 : mend.cost);
        for (int t = -1; t <= m.tune.size(); t++) {
            same("mendAt " + t, x.mendAt(t), mend == null || t < 0 || t >= m.tune.size() ? -2 : mend.row.get(t));
        }
        if (!there || Math.pow(m.cliff.notes, m.cliff.depth()) <= 150) {
            List<Integer> row = there ? m.endless() : List.of(-1);
            boolean endless = row.size() > 1;
            same("longest", x.longest(), !there || endless ? -1 : -1 - row.get(0));
            int[] is = {-1, 0, 1, 2, 3, 4, 5, 6, 7, 8, 9, below(1000), below(1000), 999, 1000};
            for (int i : is) {
                same("endless " + i, x.endless(i), endless && i >= 0 && i < 1000 ? row.get(i) : -1);
            }
        }
    }

    static void askRounds(EchoTune x, Model m) {
        int k = below(10);
        if (m.canRound(k) && Math.pow(m.cliff.notes, k) > 700) {
            k = 1 + below(2);
        }
        List<List<Integer>> all = m.canRound(k) ? m.rounds(k) : null;
        same("rounds " + k, x.rounds(k), all == null ? -1 : all.size());
        for (int i = -1; i <= k; i++) {
            same("round " + k + " " + i, x.round(k, i),
                all == null || all.isEmpty() || i < 0 || i >= k ? -1 : all.get(0).get(i));
        }
    }

    static void change(EchoTune x, Model m) {
        int r = below(12);
        if (r < 4) {
            int t = below(62) - 1;
            t = below(3) > 0 ? below(8) : t;
            int v = below(m.cliff.notes + 4) - 3;
            boolean fine = t >= 0 && t < 60 && v >= -2 && v < m.cliff.notes;
            same("fix " + t + " " + v, x.fix(t, v) ? 1 : 0, fine ? 1 : 0);
            if (fine && v == -2) {
                m.fixed.remove(t);
            } else if (fine) {
                m.fixed.put(t, v);
            }
        } else if (r < 7) {
            int v = below(m.cliff.notes + 3) - 2;
            boolean fine = v >= -1 && v < m.cliff.notes && m.tune.size() < 200;
            if (fine) {
                m.tune = new ArrayList<>(m.tune);
                m.tune.add(v);
            }
            same("sing " + v, x.sing(v), fine ? m.tune.size() : -1);
        } else if (r < 8) {
            same("clear", x.clear() ? 1 : 0, 1);
            m.tune = new ArrayList<>();
            m.fixed = new HashMap<>();
        } else if (r < 10) {
            int i = below(6) - 1;
            same("mark " + i, x.mark(i, false) ? 1 : 0, i >= 0 && i < 4 ? 1 : 0);
            if (i >= 0 && i < 4) {
                m.marks[i] = new Object[] {m.cliff, new ArrayList<>(m.tune), new HashMap<>(m.fixed)};
            }
        } else {
            goBack(x, m, below(6) - 1);
        }
    }

    @SuppressWarnings("unchecked")
    static void goBack(EchoTune x, Model m, int i) {
        boolean fine = i >= 0 && i < 4 && m.marks[i] != null;
        same("back " + i, x.mark(i, true) ? 1 : 0, fine ? 1 : 0);
        if (fine) {
            m.cliff = (Cliff) m.marks[i][0];
            m.tune = new ArrayList<>((List<Integer>) m.marks[i][1]);
            m.fixed = new HashMap<>((Map<Integer, Integer>) m.marks[i][2]);
        }
    }

    static void run(boolean small) {
        EchoTune x = new EchoTune();
        Model m = new Model();
        log.setLength(0);
        int steps = 3 + below(4);
        for (int i = 0; i < steps; i++) {
            if (below(2) == 0 || i == 0) {
                String text = cliffText(small);
                tell(x, m, below(4) == 0 ? spoil(text) : text);
                same("cliff", x.cliff(), m.readCliff());
            }
            if (below(2) == 0) {
                String text = items(m.cliff.notes, 0, 0);
                tell(x, m, below(4) == 0 ? spoil(text) : text);
                same("draft", x.draft(), m.readDraft());
            }
            for (int j = below(5); j > 0; j--) {
                change(x, m);
            }
            asks(x, m, small);
        }
    }

    static void texts() {
        EchoTune x = new EchoTune();
        Model m = new Model();
        log.setLength(0);
        for (int i = 0; i < 20; i++) {
            boolean cliff = below(3) > 0;
            tell(x, m, spoil(cliff ? cliffText(false) : items(m.cliff.notes, 0, 0)));
            if (cliff) {
                same("cliff", x.cliff(), m.readCliff());
            } else {
                same("draft", x.draft(), m.readDraft());
            }
        }
    }

    public static void main(String[] args) {
        int times = args.length > 0 ? Integer.parseInt(args[0]) : 400;
        if (args.length > 1) {
            dice.setSeed(Long.parseLong(args[1]));
        }
        for (int i = 0; i < times; i++) {
            run(true);
            run(false);
            texts();
            texts();
        }
        System.out.println(calls + " calls compared, " + wrong + " wrong");
        if (wrong != 0) {
            System.exit(1);
        }
    }
}
