/** The boundaries of TREES and FINDINGS, promises 13 (cost) to 17 (marks), sentence by sentence. */
public final class TreeEdgesTest {
    private static final int[] FAR = {Integer.MIN_VALUE, Integer.MIN_VALUE + 1, -25, -2, 25, 1 << 16,
        Integer.MAX_VALUE - 1, Integer.MAX_VALUE};
    private static final String[] STARTS = {"we", "because", "but", "say", "so"};

    public static void main(String[] args) {
        costBothSides();
        nearness();
        sharedWords();
        paragraphs();
        signsOfHanging();
        signsOfRoot();
        treeNone();
        treeDearest();
        sideBySide();
        firstRow();
        nextNone();
        nextOfTwo();
        nextOfThree();
        everyRow();
        findingBothSides();
        bareByKind();
        bareByWhatHangs();
        open();
        twiceByHalf();
        twiceOnOneHead();
        stale();
        loose();
        marksBothSides();
        marksWithoutEssay();
        marksMost();
        marksEachBit();
        Check.close();
    }

    private static EssayBones weighed(String text, int sentences, int... weights) {
        EssayBones x = Check.withSigns();
        Check.weights(x, weights);
        return Check.essay(x, text, sentences);
    }

    private static void costBothSides() {
        Check.says("What it costs that d hangs on h; RANGE (also if they are the same).");
        EssayBones x = new EssayBones();
        Check.due("no essay", x.cost(0, 1), -2);
        Check.due("no essay", x.cost(0, 0), -2);
        Check.essay(x, "a.", 1);
        Check.due("the same", x.cost(0, 0), -2);
        Check.due("none behind", x.cost(0, 1), -2);
        Check.due("none behind", x.cost(1, 0), -2);
        Check.essay(x, "a. a. a.", 3);
        for (int h = -1; h <= 3; h++) {
            for (int d = -1; d <= 3; d++) {
                boolean good = h >= 0 && h < 3 && d >= 0 && d < 3 && h != d;
                int cost = Math.abs(h - d) == 2 ? 11 : 9;
                Check.due("cost(" + h + ", " + d + ")", x.cost(h, d), good ? cost : -2);
            }
            for (int far : FAR) {
                Check.due("far off", x.cost(h, far), -2);
                Check.due("far off", x.cost(far, h), -2);
            }
        }
        Check.due("far off", x.cost(Integer.MAX_VALUE, Integer.MAX_VALUE), -2);
        Check.essay(x, "a.".repeat(24), 24);
        Check.due("the last two", x.cost(22, 23), 9);
        Check.due("none behind", x.cost(23, 24), -2);
    }

    private static void nearness() {
        Check.says("NEAR times (how far they are apart, less 1)");
        EssayBones x = weighed("a.".repeat(24), 24, 1, 0, 0, 0);
        for (int apart = 1; apart <= 23; apart++) {
            Check.due("head ahead", x.cost(0, apart), apart - 1);
            Check.due("head behind", x.cost(apart, 0), apart - 1);
            Check.due("from the last", x.cost(23, 23 - apart), apart - 1);
        }
        Check.weights(x, 50);
        Check.due("the farthest", x.cost(0, 23), 1100);
        Check.due("the nearest", x.cost(1, 0), 0);
    }

    private static void sharedWords() {
        Check.says("WORDS times (4 less how many KEYS both have, at most 4)");
        EssayBones x = weighed("a b c d e f. x. a. b a. a b c. d c b a. a b c d e. a b c d e f.", 8, 0, 7, 0, 0);
        int[] lacking = {4, 3, 2, 1, 0, 0, 0};
        for (int i = 0; i < lacking.length; i++) {
            Check.due(i + " KEYS", x.cost(0, i + 1), 7 * lacking[i]);
            Check.due(i + " KEYS", x.cost(i + 1, 0), 7 * lacking[i]);
        }
        Check.weights(x, 0, 50);
        Check.due("no KEY", x.cost(0, 1), 200);
        Check.due("one", x.cost(0, 2), 150);
        Check.due("all", x.cost(0, 7), 0);
    }

    private static void paragraphs() {
        Check.says("PARAS, if their PARAGRAPHS are unlike");
        EssayBones x = weighed("a. a.\n\na. a.\n\na.", 5, 0, 0, 0, 50);
        int[] paragraph = {0, 0, 1, 1, 2};
        for (int h = 0; h < 5; h++) {
            for (int d = 0; d < 5; d++) {
                if (h != d) {
                    int want = paragraph[h] == paragraph[d] ? 0 : 50;
                    Check.due("cost(" + h + ", " + d + ")", x.cost(h, d), want);
                }
            }
        }
        Check.due("two unlike ones at least", x.tree(), 100);
    }

    private static void signsOfHanging() {
        Check.says("SIGNS, if d is a REASON or COUNTER and h is behind it, an EXAMPLE and h is not the one just ahead of"
                + " it, or a CONCLUSION and h is ahead of it");
        for (int kind = 0; kind <= 4; kind++) {
            EssayBones x = weighed((STARTS[kind] + " a. ").repeat(7), 7, 0, 0, 50, 0);
            for (int h = 0; h < 7; h++) {
                for (int d = 0; d < 7; d++) {
                    boolean[] against = {false, h > d, h > d, h != d - 1, h < d};
                    if (h != d) {
                        Check.due("KIND " + kind + " cost(" + h + ", " + d + ")", x.cost(h, d), against[kind] ? 50 : 0);
                    }
                }
            }
        }
    }

    private static void signsOfRoot() {
        Check.says("And SIGNS, if the ROOT is a REASON, COUNTER or EXAMPLE.");
        int[] want = {0, 50, 50, 50, 0};
        for (int kind = 0; kind <= 4; kind++) {
            EssayBones x = weighed(STARTS[kind] + ".", 1, 0, 0, 50, 0);
            Check.due("ROOT of KIND " + kind, x.tree(), want[kind]);
            Check.due("it is the ROOT", x.count(7), 0);
            Check.due("its HEAD", x.sentence(0, 4), -1);
            Check.weights(x, 0, 0, 0, 0);
            Check.due("SIGNS weigh nothing", x.tree(), 0);
        }
    }

    private static void treeNone() {
        Check.says("What the TREE costs; NONE without an essay.");
        EssayBones x = new EssayBones();
        Check.due("new", x.tree(), -1);
        Check.faulty(x, "a", 6, 1);
        Check.due("a FAULT, and no essay", x.tree(), -1);
        Check.due("SIGNS and WEIGHTS alone", Check.sign(x, "so", 4), 1);
        Check.due("no essay", x.tree(), -1);
        Check.essay(x, "a.", 1);
        Check.due("one", x.tree(), 0);
        Check.essay(x, "a. b.", 2);
        Check.due("two", x.tree(), 12);
        Check.faulty(x, "a", 6, 1);
        Check.due("a FAULT, and an essay", x.tree(), 12);
    }

    private static void treeDearest() {
        Check.says("WEIGHTS 0 .. 50");
        StringBuilder text = new StringBuilder();
        for (int k = 0; k < 24; k++) {
            text.append("but ").append((char) ('a' + k)).append(".\n\n");
        }
        EssayBones x = weighed(text.toString(), 24, 50, 50, 50, 50);
        Check.due("PARAGRAPHS", x.count(1), 24);
        Check.due("the farthest", x.cost(23, 0), 1100 + 200 + 50 + 50);
        // A chain from the first one, which costs SIGNS as the ROOT.
        Check.due("tree", x.tree(), 50 + 23 * 250);
        Check.due("the last on the last but two, or 1 as the ROOT", x.next(), 50 + 23 * 250 + 50);
        Check.weights(x, 0, 0, 0, 0);
        Check.due("nothing weighs", x.tree(), 0);
        Check.due("nothing weighs", x.next(), 0);
    }

    private static void sideBySide() {
        Check.says("those that hang on one, and so on, with it, are its PART, and stand side by side in the text");
        EssayBones x = weighed("a b c d. w x y z. a b c d. w x y z.", 4, 0, 10, 0, 0);
        Check.due("two that would cross", x.tree(), 80);
        EssayBones y = weighed("a b c d. w x y z. w x y z. a b c d.", 4, 0, 10, 0, 0);
        Check.due("one inside the other", y.tree(), 40);
        EssayBones z = weighed("a b c d. a b c d. w x y z. w x y z.", 4, 0, 10, 0, 0);
        Check.due("one behind the other", z.tree(), 40);
        for (EssayBones each : new EssayBones[] {x, y, z}) {
            for (int i = 0; i < 4; i++) {
                int part = 0;
                int from = 4;
                int upTo = -1;
                for (int d = 0; d < 4; d++) {
                    int up = d;
                    for (int steps = 0; steps < 4 && up >= 0 && up != i; steps++) {
                        up = each.sentence(up, 4);
                    }
                    if (up == i) {
                        part++;
                        from = Math.min(from, d);
                        upTo = d;
                    }
                }
                Check.due("its PART", each.sentence(i, 6), part);
                Check.due("side by side", upTo - from + 1, part);
            }
        }
    }

    private static void firstRow() {
        Check.says("Rows of heads: of SENTENCE 0, 1, ..; the ROOT's is -1.");
        EssayBones x = weighed("a. a. a. a.", 4, 0, 0, 0, 0);
        Check.heads("all cost the same", x, -1, 0, 0, 0);
        Check.weights(x, 1);
        Check.heads("the nearest", x, -1, 0, 1, 2);
        EssayBones y = weighed("a. a. so a. a.", 4, 0, 0, 1, 0);
        // 2 is the ROOT, or hangs on 3.
        Check.heads("the CONCLUSION on none ahead of it", y, -1, 0, 3, 0);
        EssayBones z = weighed("a. a. a. so a.", 4, 0, 0, 1, 0);
        Check.heads("the CONCLUSION at the end", z, 1, 2, 3, -1);
    }

    private static void nextNone() {
        Check.says("The least cost of another TREE; NONE: there is none other.");
        EssayBones x = new EssayBones();
        Check.due("no essay", x.next(), -1);
        Check.faulty(x, "a", 6, 1);
        Check.due("no essay", x.next(), -1);
        Check.essay(x, "a.", 1);
        Check.due("one SENTENCE has one TREE", x.next(), -1);
        Check.essay(x, "a. b.", 2);
        Check.due("two have two", x.next(), 12);
        Check.essay(x, "a.", 1);
        Check.due("one", x.next(), -1);
        Check.faulty(x, "a. b", 6, 4);
        Check.due("one still", x.next(), -1);
    }

    private static void nextOfTwo() {
        Check.says("The least cost of another TREE");
        EssayBones x = weighed("a. because a.", 2, 2, 3, 10, 5);
        Check.due("on the first", x.tree(), 9);
        Check.due("as the ROOT", x.next(), 9 + 10);
        Check.due("SIGNS", x.weight(2, 0), 10);
        Check.due("the same cost", x.tree(), 9);
        Check.due("is still another TREE", x.next(), 9);
        EssayBones y = weighed("but a. so a.", 2, 2, 3, 10, 5);
        Check.due("the second is the ROOT", y.tree(), 9 + 10);
        Check.due("the first is the ROOT", y.next(), 9 + 10 + 10);
        Check.heads("the second is the ROOT", y, 1, -1);
        EssayBones z = weighed("a.".repeat(24), 24, 1, 0, 0, 0);
        Check.due("a chain", z.tree(), 0);
        Check.due("from another ROOT", z.next(), 0);
        // With SIGNS that weigh, only one chain is left that costs nothing.
        EssayBones w = weighed("a." + "but a.".repeat(23), 24, 1, 0, 50, 0);
        Check.due("one chain", w.tree(), 0);
        Check.due("one a step farther", w.next(), 1);
    }

    private static void nextOfThree() {
        Check.says("The least cost of another TREE");
        EssayBones x = weighed("a. because a. because a.", 3, 2, 3, 10, 5);
        Check.due("a chain", x.tree(), 9 + 9);
        Check.due("both on the first", x.next(), 9 + 9 + 2);
        Check.weights(x, 50);
        Check.due("1 as the ROOT", x.next(), 9 + 9 + 10);
        Check.weights(x, 50, 3, 50);
        Check.due("1 as the ROOT", x.next(), 9 + 9 + 50);
        Check.weights(x, 50, 3, 0);
        Check.due("it costs nothing more", x.next(), 9 + 9);
        EssayBones y = weighed("a. a. because b.\n\nbut b. so c.", 5, 2, 3, 10, 5);
        // The CONCLUSION as the ROOT, on which 1 hangs; or on 3, in a chain, for SIGNS.
        Check.due("the last as the ROOT", y.tree(), 9 + (4 + 12 + 5) + 12 + (9 + 5));
        Check.heads("the last as the ROOT", y, 1, 4, 1, 2, -1);
        Check.due("a chain", y.next(), 9 + 12 + (9 + 5) + (12 + 10));
    }

    private static void everyRow() {
        Check.says("The least cost of another TREE");
        String[] bodies = {"a b", "b c", "a", "c d a", "x"};
        int[][] weights = {{2, 3, 10, 5}, {0, 7, 1, 0}, {1, 0, 2, 3}, {50, 50, 50, 50}};
        for (int k = 0; k < 125; k++) {
            StringBuilder text = new StringBuilder();
            for (int s = 0; s < 5; s++) {
                int kind = (k / 25 * (s + 1) + k / 5 * s + k * (s * s + 1)) % 5;
                text.append(kind == 0 ? "" : STARTS[kind] + " ").append(bodies[(s * (k + 1) + k / 7) % 5]);
                text.append((s + k) % 4 == 0 ? ".\n\n" : ". ");
            }
            for (int n = 1; n <= 5; n++) {
                int end = -1;
                for (int s = 0; s < n; s++) {
                    end = text.indexOf(".", end + 1);
                }
                checkEveryRow(weighed(text.substring(0, end + 1), n, weights[k % 4]), n);
            }
        }
    }

    /** All rows of heads that are TREES, tried one by one. */
    private static void checkEveryRow(EssayBones x, int n) {
        int[] roots = new int[n];
        int[][] costs = new int[n][n];
        for (int h = 0; h < n; h++) {
            int kind = x.sentence(h, 2);
            roots[h] = kind >= 1 && kind <= 3 ? x.count(12) : 0;
            for (int d = 0; d < n; d++) {
                costs[h][d] = x.cost(h, d);
            }
        }
        int least = Integer.MAX_VALUE;
        int second = Integer.MAX_VALUE;
        int[] first = new int[n];
        int[] row = new int[n];
        // From the first row on, number by number, so that the first of the cheapest is kept.
        for (int all = (int) Math.pow(n + 1, n), at = 0; at < all; at++) {
            int cost = 0;
            for (int d = n - 1, rest = at; d >= 0; d--, rest /= n + 1) {
                row[d] = rest % (n + 1) - 1;
                cost += row[d] < 0 ? roots[d] : row[d] == d ? 0 : costs[row[d]][d];
            }
            if (Model.isTree(row)) {
                second = Math.min(second, Math.max(least, cost));
                if (cost < least) {
                    least = cost;
                    first = row.clone();
                }
            }
        }
        Check.due("the least", x.tree(), least);
        Check.due("the next", x.next(), n == 1 ? -1 : second);
        Check.heads("the first row", x, first);
    }

    private static void findingBothSides() {
        Check.says("FINDINGS of SENTENCE i; RANGE.");
        EssayBones x = new EssayBones();
        Check.due("no essay", x.finding(0), -2);
        Check.essay(x, "a. b.", 2);
        Check.due("the first", x.finding(0), 1);
        Check.due("the last", x.finding(1), 1);
        Check.due("ahead", x.finding(-1), -2);
        Check.due("behind", x.finding(2), -2);
        for (int far : FAR) {
            Check.due("far off", x.finding(far), -2);
        }
        Check.essay(x, "a.".repeat(24), 24);
        Check.due("the last of the most", x.finding(23), 1 | 8);
        Check.due("behind", x.finding(24), -2);
        Check.essay(x, "a.", 1);
        Check.due("gone with the essay ahead", x.finding(1), -2);
    }

    private static void bareByKind() {
        Check.says("1 BARE: a CLAIM or CONCLUSION on which no REASON and no EXAMPLE hangs");
        int[] want = {1, 0, 0, 0, 1};
        for (int kind = 0; kind <= 4; kind++) {
            EssayBones x = weighed(STARTS[kind] + " a.", 1, 0, 10, 0, 0);
            Check.due("KIND " + kind, x.finding(0) & 1, want[kind]);
        }
    }

    private static void bareByWhatHangs() {
        Check.says("on which no REASON and no EXAMPLE hangs");
        for (String start : new String[] {"we", "so"}) {
            int[] want = {1, 0, 1, 0, 1};
            for (int kind = 0; kind <= 4; kind++) {
                EssayBones x = weighed(start + " a. " + STARTS[kind] + " a.", 2, 0, 10, 0, 0);
                Check.heads(start, x, -1, 0);
                Check.due(start + ", with KIND " + kind, x.finding(0) & 1, want[kind]);
            }
        }
        // What hangs on what hangs on it doesn't help; one among others does.
        EssayBones x = weighed("we a. but b c. because b c.", 3, 0, 10, 0, 0);
        Check.heads("farther down", x, -1, 0, 1);
        Check.due("farther down", x.finding(0), 1);
        EssayBones y = weighed("we a b c d. but a. so b. say c. all d.", 5, 0, 10, 0, 0);
        Check.heads("one among others", y, -1, 0, 0, 0, 0);
        Check.due("one among others", y.finding(0) & 1, 0);
        Check.due("no SIGN any more", Check.sign(y, "say", 0), 3);
        Check.due("none among others", y.finding(0) & 1, 1);
        // One that hangs from ahead counts as well.
        EssayBones z = weighed("because a. so a.", 2, 0, 0, 10, 0);
        Check.heads("from ahead", z, 1, -1);
        Check.due("from ahead", z.finding(1) & 1, 0);
    }

    private static void open() {
        Check.says("2 OPEN: a COUNTER on which nothing hangs");
        for (int kind = 0; kind <= 4; kind++) {
            EssayBones x = weighed("all x. but a b c d. " + STARTS[kind] + " a b c d.", 3, 0, 10, 0, 0);
            Check.heads("KIND " + kind + " on a COUNTER", x, -1, 0, 1);
            Check.due("something hangs", x.finding(1) & 2, 0);
            Check.due("the last", x.finding(2) & 2, kind == 2 ? 2 : 0);
            EssayBones y = weighed("all x. " + STARTS[kind] + " a.", 2, 0, 10, 0, 0);
            Check.due("nothing hangs", y.finding(1) & 2, kind == 2 ? 2 : 0);
        }
        EssayBones z = weighed("but a.", 1, 0, 10, 0, 0);
        Check.due("one alone", z.finding(0), 2 | 16);
    }

    /** Two that hang on 0; the second has so many KEYS, and so many of them the first one has. */
    private static EssayBones sharing(int keys, int both) {
        StringBuilder top = new StringBuilder("we zz");
        StringBuilder first = new StringBuilder("zz");
        StringBuilder second = new StringBuilder("the");
        for (int k = 0; k < keys; k++) {
            top.append(" k").append(k);
            second.append(" k").append(k);
            if (k < both) {
                first.append(" k").append(k);
            }
        }
        EssayBones x = Check.withSigns();
        Check.due("a STOP", Check.stop(x, "the"), 1);
        Check.weights(x, 0, 10, 0, 0);
        Check.essay(x, top + "." + first + "." + second + ".", 3);
        Check.heads(keys + " KEYS", x, -1, 0, 0);
        Check.due("KEYS", x.sentence(2, 1), keys);
        Check.due("KEYS of both", x.shared(1, 2), both);
        return x;
    }

    private static void twiceByHalf() {
        Check.says("an earlier SENTENCE hangs that has half of its KEYS or more (it has some)");
        for (int keys = 0; keys <= 9; keys++) {
            for (int both = 0; both <= keys; both++) {
                EssayBones x = sharing(keys, both);
                boolean twice = keys > 0 && 2 * both >= keys;
                Check.due(both + " of " + keys + " KEYS", x.finding(2) & 4, twice ? 4 : 0);
                Check.due("the earlier one", x.finding(1) & 4, 0);
                Check.due("the ROOT", x.finding(0) & 4, 0);
            }
        }
        Check.due("18 of 38", sharing(38, 18).finding(2) & 4, 0);
        Check.due("19 of 38", sharing(38, 19).finding(2) & 4, 4);
        Check.due("18 of 37", sharing(37, 18).finding(2) & 4, 0);
        Check.due("19 of 37", sharing(37, 19).finding(2) & 4, 4);
    }

    private static void twiceOnOneHead() {
        Check.says("4 TWICE: it hangs on a HEAD on which an earlier SENTENCE hangs");
        // All say the same: in a chain no two hang on one HEAD.
        EssayBones x = weighed("a b. a b. a b. a b.", 4, 1, 10, 0, 0);
        Check.heads("a chain", x, -1, 0, 1, 2);
        for (int i = 0; i < 4; i++) {
            Check.due("in a chain", x.finding(i) & 4, 0);
        }
        Check.weights(x, 0);
        Check.heads("a star", x, -1, 0, 0, 0);
        int[] want = {0, 0, 4, 4};
        for (int i = 0; i < 4; i++) {
            Check.due("in a star", x.finding(i) & 4, want[i]);
        }
        // A HEAD behind them: the earlier one is still the first of the two.
        EssayBones y = weighed("a b. a c. so a b c.", 3, 0, 10, 50, 0);
        Check.heads("a HEAD behind", y, 2, 2, -1);
        Check.due("the first", y.finding(0) & 4, 0);
        Check.due("the second", y.finding(1) & 4, 4);
        // One that says the same hangs on another HEAD.
        EssayBones z = weighed("a b m n o. m n o x. x. a b c. c x.", 5, 0, 10, 0, 0);
        Check.heads("two HEADS", z, -1, 0, 1, 0, 3);
        Check.due("x is told elsewhere", z.finding(4) & 4, 0);
        // Not the latest of the earlier ones alone.
        EssayBones w = weighed("a b c d e f. a b. c d. e f. a x.", 5, 0, 10, 0, 0);
        Check.heads("a star", w, -1, 0, 0, 0, 0);
        Check.due("the first of three", w.finding(4) & 4, 4);
        Check.due("none of two", w.finding(3) & 4, 0);
    }

    private static void stale() {
        Check.says("8 STALE: it has KEYS, and each is one of some earlier SENTENCE");
        EssayBones x = Check.withSigns();
        Check.due("a STOP", Check.stop(x, "the"), 1);
        Check.essay(x, "a b. c. the. a. a b c. a b c d. d e. e. the but. but.", 10);
        int[] want = {0, 0, 0, 8, 8, 0, 0, 8, 0, 0};
        for (int i = 0; i < want.length; i++) {
            Check.due("STALE " + i, x.finding(i) & 8, want[i]);
        }
        Check.due("no SIGN any more", Check.sign(x, "but", 0), 3);
        Check.due("it has a KEY now", x.finding(9) & 8, 8);
        Check.due("no STOP any more", Check.stop(x, "the"), 0);
        Check.due("it has one now, a new one", x.finding(2) & 8, 0);
        Check.due("both are old but one", x.finding(8) & 8, 0);
        staleAmongMost();
        // The KEYS of one that comes later don't count.
        EssayBones y = weighed("a. a b. b.", 3, 2, 3, 10, 5);
        Check.due("the first", y.finding(0) & 8, 0);
        Check.due("told later", y.finding(1) & 8, 0);
        Check.due("told earlier", y.finding(2) & 8, 8);
        Check.due("move", y.move(2, 0) > 0 ? 1 : 0, 1);
        Check.due("it is the first now", y.finding(0) & 8, 0);
        Check.due("it is told earlier now", y.finding(2) & 8, 8);
    }

    /** 12 with 40 unlike KEYS each, then 12 that have them again, and one of those a new one. */
    private static void staleAmongMost() {
        StringBuilder text = new StringBuilder();
        for (int k = 0; k < 960; k++) {
            int w = k == 959 ? 480 : k % 480;
            text.append((char) ('a' + w / 37)).append("abcdefghijklmnopqrstuvwxyz0123456789'".charAt(w % 37));
            text.append(k % 40 == 39 ? '.' : ' ');
        }
        EssayBones x = Check.essay(new EssayBones(), text.toString(), 24);
        for (int i = 0; i < 24; i++) {
            Check.due("STALE " + i, x.finding(i) & 8, i >= 12 && i < 23 ? 8 : 0);
        }
        // 23 with 40 unlike KEYS each, and a last one with KEYS of the first and of the last ahead of it.
        StringBuilder more = new StringBuilder();
        for (int k = 0; k < 960; k++) {
            int w = k < 920 ? k : k % 2 == 0 ? k - 920 : k - 41;
            more.append((char) ('a' + w / 37)).append("abcdefghijklmnopqrstuvwxyz0123456789'".charAt(w % 37));
            more.append(k % 40 == 39 ? '.' : ' ');
        }
        Check.essay(x, more.toString(), 24);
        for (int i = 0; i < 24; i++) {
            Check.due("STALE " + i, x.finding(i) & 8, i == 23 ? 8 : 0);
        }
        Check.due("KEYS", x.sentence(23, 1), 40);
    }

    private static void loose() {
        Check.says("16 LOOSE: SENTENCE 0 that is a REASON, COUNTER or EXAMPLE");
        int[] want = {0, 16, 16, 16, 0};
        for (int kind = 0; kind <= 4; kind++) {
            EssayBones x = weighed(STARTS[kind] + " a. " + STARTS[kind] + " b.", 2, 2, 3, 10, 5);
            Check.due("SENTENCE 0 of KIND " + kind, x.finding(0) & 16, want[kind]);
            Check.due("SENTENCE 1 of KIND " + kind, x.finding(1) & 16, 0);
        }
        EssayBones y = weighed("but a. so b.", 2, 2, 3, 10, 5);
        Check.heads("it isn't the ROOT", y, 1, -1);
        Check.due("it isn't the ROOT", y.finding(0) & 16, 16);
        EssayBones z = weighed("we a. because a.", 2, 2, 3, 10, 5);
        Check.due("no REASON first", z.finding(0) & 16, 0);
        Check.due("moved", z.move(1, 0), 2);
        Check.due("a REASON first", z.finding(0) & 16, 16);
    }

    private static void marksBothSides() {
        Check.says("(-100 .. 100 each)");
        EssayBones x = Check.essay(new EssayBones(), "a.", 1);
        for (int k = 0; k < 5; k++) {
            for (int points : new int[] {-101, -100, -99, 99, 100, 101, -356, 356, Integer.MIN_VALUE, Integer.MAX_VALUE}) {
                int[] p = new int[5];
                p[k] = points;
                int want = points < -100 || points > 100 ? -2 : k == 0 ? points : 0;
                Check.due("marks of " + points + " at " + k, x.marks(p[0], p[1], p[2], p[3], p[4]), want);
            }
        }
        Check.due("all the most", x.marks(100, 100, 100, 100, 100), 100);
        Check.due("all the least", x.marks(-100, -100, -100, -100, -100), -100);
        Check.due("all too many", x.marks(101, 101, 101, 101, 101), -2);
        Check.due("too many and too few", x.marks(101, -101, 101, -101, 101), -2);
    }

    private static void marksWithoutEssay() {
        Check.says("0 without an essay.");
        EssayBones x = new EssayBones();
        Check.due("new", x.marks(100, 100, 100, 100, 100), 0);
        Check.due("new", x.marks(-100, -100, -100, -100, -100), 0);
        Check.faulty(x, "a", 6, 1);
        Check.due("a FAULT, and no essay", x.marks(1, 1, 1, 1, 1), 0);
        for (int k = 0; k < 5; k++) {
            Check.due("RANGE", x.marks(k == 0 ? 101 : 0, k == 1 ? -101 : 0, k == 2 ? 101 : 0, k == 3 ? -101 : 0,
                    k == 4 ? 101 : 0), -2);
        }
    }

    private static void marksMost() {
        Check.says("the sum over all FINDINGS");
        EssayBones x = weighed("a.".repeat(24), 24, 0, 3, 10, 5);
        // A star: all BARE, all but the first STALE, all but the first two TWICE.
        Check.due("BARE", x.marks(100, 0, 0, 0, 0), 2400);
        Check.due("TWICE", x.marks(0, 0, 100, 0, 0), 2200);
        Check.due("STALE", x.marks(0, 0, 0, 100, 0), 2300);
        Check.due("all", x.marks(100, 100, 100, 100, 100), 6900);
        Check.due("all, the least", x.marks(-100, -100, -100, -100, -100), -6900);
        EssayBones y = weighed("but.".repeat(24), 24, 2, 3, 10, 5);
        Check.due("OPEN: the last of a chain", y.marks(0, 100, 0, 0, 0), 100);
        Check.weights(y, 0);
        Check.due("OPEN: all but the ROOT", y.marks(0, 100, 0, 0, 0), 2300);
        Check.due("LOOSE: the first", y.marks(0, 0, 0, 0, -100), -100);
    }

    private static void marksEachBit() {
        Check.says("Points for BARE, OPEN, TWICE, STALE, LOOSE");
        EssayBones x = weighed("but a b. a. but b. because b.", 4, 0, 10, 0, 0);
        Check.heads("a star", x, -1, 0, 0, 0);
        int[] want = {16, 1 | 8, 2 | 8, 4 | 8};
        int[] each = new int[5];
        for (int i = 0; i < 4; i++) {
            Check.due("finding " + i, x.finding(i), want[i]);
            for (int k = 0; k < 5; k++) {
                each[k] += want[i] >> k & 1;
            }
        }
        Check.due("BARE", x.marks(7, 0, 0, 0, 0), 7 * each[0]);
        Check.due("OPEN", x.marks(0, 7, 0, 0, 0), 7 * each[1]);
        Check.due("TWICE", x.marks(0, 0, 7, 0, 0), 7 * each[2]);
        Check.due("STALE", x.marks(0, 0, 0, 7, 0), 7 * each[3]);
        Check.due("LOOSE", x.marks(0, 0, 0, 0, 7), 7 * each[4]);
    }
}
