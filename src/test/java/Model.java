import java.util.ArrayList;
import java.util.HashMap;
import java.util.HashSet;
import java.util.List;
import java.util.Map;
import java.util.Set;
import java.util.TreeMap;
import java.util.TreeSet;

/** The document told again, slowly and with the Java library, to compare answers with. */
final class Model {
    static final int NONE = -1;
    static final int RANGE = -2;
    static final int FULL = -3;

    private static final class Sentence {
        final List<String> words = new ArrayList<>();
        int was;
    }

    private static final class Way {
        final int cost;
        final List<Integer> row;

        Way(int cost, List<Integer> row) {
            this.cost = cost;
            this.row = row;
        }
    }

    private final StringBuilder tape = new StringBuilder();
    private final Set<String> stops = new TreeSet<>();
    private final Map<String, Integer> signs = new TreeMap<>();
    private final Set<String> endings = new TreeSet<>();
    private final int[] weights = {2, 3, 10, 5};
    private List<Sentence> essay = new ArrayList<>();
    private List<Integer> paragraphs = new ArrayList<>();
    private int faultKind = 0;
    private int faultPlace = NONE;
    private final List<Sentence[]> pairs = new ArrayList<>();
    private List<Integer> told = new ArrayList<>();
    private List<Way> trees;

    // ---- tape and tables

    int feed(int... five) {
        if (tape.length() + 20 > 3000) {
            return FULL;
        }
        for (int four : five) {
            for (int k = 3; k >= 0; k--) {
                tape.append((char) (four >> 8 * k & 0xff));
            }
        }
        return tape.length();
    }

    int end(int n) {
        if (n < 0 || n > tape.length()) {
            return NONE;
        }
        tape.setLength(n);
        return n;
    }

    private String taken(int most) {
        String all = tape.toString();
        tape.setLength(0);
        if (!all.matches("[A-Za-z0-9']{1," + most + "}")) {
            return null;
        }
        return all.toLowerCase(java.util.Locale.ROOT);
    }

    private int toggle(Set<String> table, int mostBytes, int most) {
        String word = taken(mostBytes);
        if (word == null) {
            return RANGE;
        }
        if (!table.remove(word)) {
            if (table.size() == most) {
                return FULL;
            }
            table.add(word);
        }
        trees = null;
        return table.size();
    }

    int stop() {
        return toggle(stops, 16, 60);
    }

    int ending() {
        return toggle(endings, 6, 10);
    }

    int sign(int kind) {
        String word = taken(16);
        if (word == null || kind < 0 || kind > 4) {
            return RANGE;
        }
        if (kind == 0) {
            signs.remove(word);
        } else if (!signs.containsKey(word) && signs.size() == 30) {
            return FULL;
        } else {
            signs.put(word, kind);
        }
        trees = null;
        return signs.size();
    }

    int weight(int i, int v) {
        if (i < 0 || i > 3 || v < 0 || v > 50) {
            return RANGE;
        }
        int was = weights[i];
        weights[i] = v;
        trees = null;
        return was;
    }

    // ---- the essay

    int read() {
        String text = tape.toString();
        tape.setLength(0);
        List<Sentence> sentences = new ArrayList<>();
        List<Integer> paras = new ArrayList<>();
        faultKind = 0;
        faultPlace = NONE;
        Sentence open = null;
        int gapFrom = 0;
        int p = 0;
        while (p < text.length()) {
            char c = text.charAt(p);
            if (isWordByte(c)) {
                if (open == null) {
                    if (sentences.size() == 24) {
                        return faulty(4, p);
                    }
                    int last = paras.isEmpty() ? 0 : paras.get(paras.size() - 1);
                    boolean anew = !sentences.isEmpty() && text.substring(gapFrom, p).matches("(?s).*\n *\n.*");
                    paras.add(anew ? last + 1 : last);
                    open = new Sentence();
                    open.was = sentences.size();
                    sentences.add(open);
                }
                if (open.words.size() == 40) {
                    return faulty(3, p);
                }
                int from = p;
                while (p < text.length() && isWordByte(text.charAt(p))) {
                    if (p - from == 16) {
                        return faulty(2, p);
                    }
                    p++;
                }
                open.words.add(text.substring(from, p).toLowerCase(java.util.Locale.ROOT));
                continue;
            }
            if (".!?".indexOf(c) >= 0) {
                if (open == null) {
                    return faulty(5, p);
                }
                open = null;
                gapFrom = p + 1;
            } else if (" \n,;:".indexOf(c) < 0) {
                return faulty(1, p);
            }
            p++;
        }
        if (open != null || sentences.isEmpty()) {
            return faulty(6, text.length());
        }
        essay = sentences;
        paragraphs = paras;
        pairs.clear();
        trees = null;
        return essay.size();
    }

    private static boolean isWordByte(char c) {
        return c >= 'A' && c <= 'Z' || c >= 'a' && c <= 'z' || c >= '0' && c <= '9' || c == 39;
    }

    private int faulty(int kind, int place) {
        faultKind = kind;
        faultPlace = place;
        return NONE;
    }

    int fault(int what) {
        return what == 0 ? faultKind : what == 1 ? faultPlace : NONE;
    }

    private boolean none(int i) {
        return i < 0 || i >= essay.size();
    }

    private int kind(int i) {
        return signs.getOrDefault(essay.get(i).words.get(0), 0);
    }

    private Set<String> keys(int i) {
        Set<String> keys = new HashSet<>();
        List<String> words = essay.get(i).words;
        for (int k = 0; k < words.size(); k++) {
            String word = words.get(k);
            if (!stops.contains(word) && !(k == 0 && signs.containsKey(word))) {
                String folded = word;
                for (String tail : endings) {
                    if (word.endsWith(tail) && word.length() - tail.length() >= 3
                            && word.length() - tail.length() < folded.length()) {
                        folded = word.substring(0, word.length() - tail.length());
                    }
                }
                keys.add(folded);
            }
        }
        return keys;
    }

    private int head(int d) {
        return trees().get(0).row.get(d);
    }

    private boolean inPart(int d, int h) {
        for (int up = d; up >= 0; up = head(up)) {
            if (up == h) {
                return true;
            }
        }
        return false;
    }

    private List<Integer> part(int h) {
        List<Integer> part = new ArrayList<>();
        for (int d = 0; d < essay.size(); d++) {
            if (inPart(d, h)) {
                part.add(d);
            }
        }
        return part;
    }

    private List<Integer> hung(int h) {
        List<Integer> hung = new ArrayList<>();
        for (int d = 0; d < essay.size(); d++) {
            if (head(d) == h) {
                hung.add(d);
            }
        }
        return hung;
    }

    int sentence(int i, int what) {
        if (none(i) || what < 0 || what > 7) {
            return RANGE;
        }
        int[] all = {essay.get(i).words.size(), keys(i).size(), kind(i), paragraphs.get(i), head(i),
            hung(i).size(), part(i).size(), essay.get(i).was};
        return all[what];
    }

    int word(int i, int k, int j) {
        if (none(i) || k < 0 || k >= essay.get(i).words.size()) {
            return NONE;
        }
        String word = essay.get(i).words.get(k);
        return j < 0 || j >= word.length() ? NONE : word.charAt(j);
    }

    int shared(int i, int j) {
        if (none(i) || none(j)) {
            return RANGE;
        }
        Set<String> both = keys(i);
        both.retainAll(keys(j));
        return both.size();
    }

    // ---- the tree

    int cost(int h, int d) {
        if (none(h) || none(d) || h == d) {
            return RANGE;
        }
        int sum = weights[0] * (Math.abs(h - d) - 1) + weights[1] * Math.max(0, 4 - shared(h, d));
        if (!paragraphs.get(h).equals(paragraphs.get(d))) {
            sum += weights[3];
        }
        int kind = kind(d);
        boolean odd = (kind == 1 || kind == 2) && h > d || kind == 3 && h != d - 1 || kind == 4 && h < d;
        return odd ? sum + weights[2] : sum;
    }

    private static boolean isFirst(Way a, Way b) {
        if (a.cost != b.cost) {
            return a.cost < b.cost;
        }
        for (int k = 0; k < a.row.size(); k++) {
            if (!a.row.get(k).equals(b.row.get(k))) {
                return a.row.get(k) < b.row.get(k);
            }
        }
        return false;
    }

    /** Keeps the first two ways. */
    private static void offer(List<Way> two, Way way) {
        int at = 0;
        while (at < two.size() && isFirst(two.get(at), way)) {
            at++;
        }
        two.add(at, way);
        if (two.size() > 2) {
            two.remove(2);
        }
    }

    private static Way join(Way a, Way b, int more) {
        List<Integer> row = new ArrayList<>(a.row);
        row.addAll(b.row);
        return new Way(a.cost + b.cost + more, row);
    }

    private int[][] costs;
    private Map<Integer, List<Way>> known;

    /** The first two trees (or the one) of all. */
    private List<Way> trees() {
        if (trees == null) {
            int n = essay.size();
            costs = new int[n][n];
            for (int h = 0; h < n; h++) {
                for (int d = 0; d < n; d++) {
                    costs[h][d] = cost(h, d);
                }
            }
            known = new HashMap<>();
            trees = new ArrayList<>();
            for (int r = 0; r < n; r++) {
                int more = kind(r) >= 1 && kind(r) <= 3 ? weights[2] : 0;
                for (Way w : rooted(0, n - 1, r, -1)) {
                    offer(trees, new Way(w.cost + more, w.row));
                }
            }
        }
        return trees;
    }

    /** All from i to j, that hang on r, which hangs on h. */
    private List<Way> rooted(int i, int j, int r, int h) {
        List<Way> two = new ArrayList<>();
        for (Way left : hanging(i, r - 1, r)) {
            for (Way right : hanging(r + 1, j, r)) {
                Way self = new Way(h < 0 ? 0 : costs[h][r], List.of(h));
                offer(two, join(join(left, self, 0), right, 0));
            }
        }
        return two;
    }

    /** All from i to j, as parts that each hang on h. */
    private List<Way> hanging(int i, int j, int h) {
        if (i > j) {
            return List.of(new Way(0, List.of()));
        }
        int name = (i * 32 + j) * 32 + h;
        List<Way> two = known.get(name);
        if (two == null) {
            two = new ArrayList<>();
            for (int k = i; k <= j; k++) {
                List<Way> rest = hanging(k + 1, j, h);
                for (int r = i; r <= k; r++) {
                    for (Way first : rooted(i, k, r, h)) {
                        for (Way more : rest) {
                            offer(two, join(first, more, 0));
                        }
                    }
                }
            }
            known.put(name, two);
        }
        return two;
    }

    /** What every tree costs, by trying every row of heads: for a few sentences alone. */
    List<Integer> allTreeCosts() {
        List<Integer> found = new ArrayList<>();
        int n = essay.size();
        int[] row = new int[n];
        long all = 1;
        for (int k = 0; k < n; k++) {
            all *= n + 1;
        }
        for (long at = 0; at < all; at++) {
            long rest = at;
            for (int d = 0; d < n; d++) {
                row[d] = (int) (rest % (n + 1)) - 1;
                rest /= n + 1;
            }
            if (isTree(row)) {
                found.add(costOf(row));
            }
        }
        found.sort(null);
        return found;
    }

    static boolean isTree(int[] row) {
        int n = row.length;
        int roots = 0;
        boolean[][] in = new boolean[n][n];
        for (int d = 0; d < n; d++) {
            roots += row[d] < 0 ? 1 : 0;
            int up = d;
            for (int steps = 0; up >= 0; steps++) {
                if (steps > n) {
                    return false;
                }
                in[up][d] = true;
                up = row[up];
            }
        }
        for (int h = 0; h < n; h++) {
            int runs = 0;
            for (int d = 0; d < n; d++) {
                runs += in[h][d] && (d == 0 || !in[h][d - 1]) ? 1 : 0;
            }
            if (runs != 1) {
                return false;
            }
        }
        return roots == 1;
    }

    private int costOf(int[] row) {
        int sum = 0;
        for (int d = 0; d < row.length; d++) {
            int kind = kind(d);
            sum += row[d] >= 0 ? cost(row[d], d) : kind >= 1 && kind <= 3 ? weights[2] : 0;
        }
        return sum;
    }

    int tree() {
        return essay.isEmpty() ? NONE : trees().get(0).cost;
    }

    int next() {
        return trees().size() < 2 ? NONE : trees().get(1).cost;
    }

    int finding(int i) {
        if (none(i)) {
            return RANGE;
        }
        int bits = 0;
        int kind = kind(i);
        boolean bare = kind == 0 || kind == 4;
        for (int d : hung(i)) {
            bare &= kind(d) != 1 && kind(d) != 3;
        }
        bits |= bare ? 1 : 0;
        bits |= kind == 2 && hung(i).isEmpty() ? 2 : 0;
        Set<String> keys = keys(i);
        Set<String> old = new HashSet<>();
        for (int e = 0; e < i; e++) {
            old.addAll(keys(e));
            if (head(i) >= 0 && head(e) == head(i) && !keys.isEmpty() && shared(e, i) * 2 >= keys.size()) {
                bits |= 4;
            }
        }
        bits |= !keys.isEmpty() && old.containsAll(keys) ? 8 : 0;
        bits |= i == 0 && kind >= 1 && kind <= 3 ? 16 : 0;
        return bits;
    }

    int marks(int... points) {
        for (int p : points) {
            if (p < -100 || p > 100) {
                return RANGE;
            }
        }
        int sum = 0;
        for (int i = 0; i < essay.size(); i++) {
            for (int k = 0; k < 5; k++) {
                sum += points[k] * (finding(i) >> k & 1);
            }
        }
        return sum;
    }

    // ---- orders

    private boolean leads(Sentence a, Sentence b) {
        if (a == b) {
            return true;
        }
        for (Sentence[] p : pairs) {
            if (p[0] == a && leads(p[1], b)) {
                return true;
            }
        }
        return false;
    }

    int pair(int a, int b) {
        if (none(a) || none(b) || a == b || leads(essay.get(b), essay.get(a))) {
            return RANGE;
        }
        for (Sentence[] p : pairs) {
            if (p[0] == essay.get(a) && p[1] == essay.get(b)) {
                return pairs.size();
            }
        }
        if (pairs.size() == 20) {
            return FULL;
        }
        pairs.add(new Sentence[] {essay.get(a), essay.get(b)});
        return pairs.size();
    }

    /** The first of the cheapest orders, by trying all. */
    private Way cheapest(int h) {
        List<Integer> units = hung(h);
        if (units.size() > 9) {
            return null;
        }
        units.add(h);
        units.sort(null);
        List<Way> best = new ArrayList<>();
        permute(h, units, new ArrayList<>(), best);
        return best.isEmpty() ? null : best.get(0);
    }

    private void permute(int h, List<Integer> left, List<Integer> row, List<Way> best) {
        if (left.isEmpty()) {
            List<Integer> laid = laidOut(h, row);
            if (isKept(h, row, laid)) {
                int sum = 0;
                for (int d : hung(h)) {
                    sum += Math.abs(laid.indexOf(d) - laid.indexOf(h));
                }
                offer(best, new Way(sum, new ArrayList<>(row)));
            }
            return;
        }
        for (int k = 0; k < left.size(); k++) {
            List<Integer> rest = new ArrayList<>(left);
            row.add(rest.remove(k));
            permute(h, rest, row, best);
            row.remove(row.size() - 1);
        }
    }

    private List<Integer> laidOut(int h, List<Integer> row) {
        List<Integer> laid = new ArrayList<>();
        for (int u : row) {
            laid.addAll(u == h ? List.of(h) : part(u));
        }
        return laid;
    }

    private boolean isKept(int h, List<Integer> row, List<Integer> laid) {
        for (int u : row) {
            if (u != h && kind(u) >= 1 && kind(u) <= 3 && row.indexOf(u) < row.indexOf(h)) {
                return false;
            }
        }
        for (Sentence[] p : pairs) {
            int a = essay.indexOf(p[0]);
            int b = essay.indexOf(p[1]);
            if (laid.contains(a) && laid.contains(b) && unit(h, row, a) != unit(h, row, b)
                    && laid.indexOf(a) > laid.indexOf(b)) {
                return false;
            }
        }
        return true;
    }

    private int unit(int h, List<Integer> row, int s) {
        for (int u : row) {
            if (u != h && inPart(s, u)) {
                return u;
            }
        }
        return h;
    }

    int order(int h) {
        if (none(h)) {
            return RANGE;
        }
        Way way = cheapest(h);
        if (way == null) {
            return NONE;
        }
        told = way.row;
        return way.cost;
    }

    int ordered(int i) {
        return i < 0 || i >= told.size() ? NONE : told.get(i);
    }

    int stands(int h) {
        if (none(h)) {
            return RANGE;
        }
        int sum = 0;
        for (int d : hung(h)) {
            sum += Math.abs(h - d);
        }
        return sum;
    }

    private int put(List<Sentence> then) {
        int elsewhere = 0;
        for (int i = 0; i < then.size(); i++) {
            elsewhere += then.get(i) != essay.get(i) ? 1 : 0;
        }
        essay = then;
        trees = null;
        return elsewhere;
    }

    int arrange(int h) {
        if (none(h)) {
            return RANGE;
        }
        Way way = cheapest(h);
        if (way == null) {
            return NONE;
        }
        List<Sentence> then = new ArrayList<>(essay);
        int at = part(h).get(0);
        for (int s : laidOut(h, way.row)) {
            then.set(at++, essay.get(s));
        }
        return put(then);
    }

    int move(int d, int e) {
        if (none(d) || e < 0 || e > essay.size() || part(d).contains(e)) {
            return RANGE;
        }
        List<Sentence> moved = new ArrayList<>();
        for (int s : part(d)) {
            moved.add(essay.get(s));
        }
        List<Sentence> then = new ArrayList<>(essay);
        then.removeAll(moved);
        int at = e == essay.size() ? then.size() : then.indexOf(essay.get(e));
        then.addAll(at, moved);
        return put(then);
    }

    int count(int what) {
        int root = NONE;
        for (int i = 0; i < essay.size(); i++) {
            root = head(i) < 0 ? i : root;
        }
        int[] all = {essay.size(), new HashSet<>(paragraphs).size(), stops.size(), signs.size(),
            endings.size(), pairs.size(), tape.length(), root};
        if (what >= 0 && what < 8) {
            return all[what];
        }
        return what >= 10 && what <= 13 ? weights[what - 10] : NONE;
    }
}
