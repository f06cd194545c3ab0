/** Promises 13 (cost), 14 (tree), 15 (next), 16 (finding) and 17 (marks). */
public final class TreeTest {
    public static void main(String[] args) {
        costs();
        trees();
        treesWithSigns();
        partsStandTogether();
        firstOfEqualRows();
        nextTrees();
        bareAndOpen();
        twice();
        stale();
        staleAmongMany();
        loose();
        marks();
        Check.close();
    }

    /** Only words and signs count, so that which trees are equal is easy to see. */
    private static EssayBones plain(String text) {
        EssayBones x = Check.withSigns();
        x.weight(0, 0);
        x.weight(1, 10);
        x.weight(2, 50);
        x.weight(3, 0);
        Check.due("read " + text, Check.read(x, text) > 0 ? 1 : 0, 1);
        return x;
    }

    private static void findings(String text, int... want) {
        EssayBones x = plain(text);
        Check.due("sentences of " + text, x.count(0), want.length);
        for (int i = 0; i < want.length; i++) {
            Check.due("finding " + i + " of " + text, x.finding(i), want[i]);
        }
        Check.due("ahead of all", x.finding(-1), -2);
        Check.due("behind all", x.finding(want.length), -2);
    }

    private static void costs() {
        EssayBones x = Check.withSigns();
        Check.read(x, "We a b c d e. Because a b c d e. But a.\n\nSay a b. So q. So a.");
        Check.due("five keys count as four", x.cost(0, 1), 0);
        Check.due("a claim hangs either way", x.cost(1, 0), 0);
        Check.due("a reason on one behind it", x.cost(2, 1), 9 + 10);
        Check.due("all at once", x.cost(4, 1), 4 + 12 + 5 + 10);
        Check.due("a counter, one between", x.cost(0, 2), 2 + 9);
        Check.due("a counter on one behind it", x.cost(3, 2), 9 + 5 + 10);
        Check.due("an example just behind", x.cost(2, 3), 9 + 5);
        Check.due("an example further behind", x.cost(1, 3), 2 + 6 + 5 + 10);
        Check.due("an example ahead", x.cost(4, 3), 12 + 10);
        Check.due("a conclusion behind", x.cost(3, 4), 12 + 10);
        Check.due("a conclusion ahead", x.cost(5, 4), 12);
        Check.due("a claim far off", x.cost(4, 0), 6 + 12 + 5);
        x.weight(0, 7);
        x.weight(1, 11);
        x.weight(2, 13);
        x.weight(3, 17);
        Check.due("other weights", x.cost(4, 1), 14 + 44 + 17 + 13);
        Check.due("the same", x.cost(2, 2), -2);
        for (int bad : new int[] {-1, 6, Integer.MAX_VALUE, Integer.MIN_VALUE}) {
            Check.due("no such head", x.cost(bad, 0), -2);
            Check.due("no such", x.cost(0, bad), -2);
        }
    }

    private static void trees() {
        EssayBones x = new EssayBones();
        Check.due("no essay", x.tree(), -1);
        Check.due("no root", x.count(7), -1);
        Check.read(x, "A.");
        Check.due("one", x.tree(), 0);
        Check.heads("one", x, -1);
        Check.read(x, "A b. A b.\n\nA b. A b.");
        Check.due("a chain", x.tree(), 3 * 6 + 5);
        Check.heads("a chain", x, -1, 0, 1, 2);
        x.weight(0, 0);
        Check.due("nearness weighs nothing", x.tree(), 3 * 6 + 5);
        Check.heads("a broom", x, -1, 0, 0, 2);
        x.weight(3, 0);
        Check.heads("a star", x, -1, 0, 0, 0);
        Check.due("hang on it", x.sentence(0, 5), 3);
        Check.due("its part", x.sentence(0, 6), 4);
        x.weight(0, 50);
        x.weight(1, 50);
        Check.due("dear", x.tree(), 3 * 100);
        Check.due("a fault leaves the tree", Check.read(x, "-"), -1);
        Check.due("dear", x.tree(), 3 * 100);
    }

    private static void treesWithSigns() {
        EssayBones x = Check.withSigns();
        for (String start : new String[] {"Because", "But", "Say"}) {
            Check.read(x, start + ".");
            Check.due(start + " as the root", x.tree(), 10);
            Check.due("the root", x.count(7), 0);
        }
        Check.read(x, "So.");
        Check.due("a conclusion as the root", x.tree(), 0);
        Check.read(x, "We a. We a. We a. So we a.");
        Check.due("a conclusion is the root", x.tree(), 18);
        Check.heads("a conclusion is the root", x, 1, 2, 3, -1);
        Check.due("the root", x.count(7), 3);
        Check.due("but not at this price", x.weight(2, 0), 10);
        Check.heads("no signs", x, -1, 0, 1, 2);
        Check.read(x, "Because a. We b. Say b.");
        x.weight(2, 50);
        Check.due("a reason first costs either way", x.tree(), 12 + 50 + 9);
        Check.heads("a reason first", x, -1, 0, 1);
        Check.sign(x, "because", 0);
        Check.due("no reason any more", x.tree(), 12 + 9);
    }

    /** The two pairs that are alike cross, so only one of them can hang together. */
    private static void partsStandTogether() {
        EssayBones x = plain("A b c d. W x y z. A b c d. W x y z.");
        Check.due("crossing pairs", x.tree(), 80);
        Check.heads("crossing pairs", x, -1, 0, 0, 0);
        x.weight(0, 1);
        Check.due("crossing pairs, near ones", x.tree(), 81);
        EssayBones y = plain("A b c d. W x y z. W x y z. A b c d.");
        Check.due("pairs that nest", y.tree(), 40);
        Check.heads("pairs that nest", y, -1, 0, 1, 0);
    }

    private static void firstOfEqualRows() {
        EssayBones x = new EssayBones();
        Check.due("the most", Check.read(x, "a.".repeat(24)), 24);
        int[] chain = new int[24];
        int[] star = new int[24];
        int[] back = new int[24];
        for (int i = 0; i < 24; i++) {
            chain[i] = i - 1;
            star[i] = i == 0 ? -1 : 0;
            back[i] = i == 23 ? -1 : i + 1;
        }
        Check.due("a chain of 24", x.tree(), 23 * 9);
        Check.due("another of the same cost", x.next(), 23 * 9);
        Check.heads("a chain of 24", x, chain);
        x.weight(0, 0);
        Check.heads("a star of 24", x, star);
        Check.sign(x, "so", 4);
        Check.read(x, "a.".repeat(23) + "So a.");
        Check.heads("all on what follows", x, back);
        x.weight(0, 50);
        x.weight(1, 50);
        Check.due("dear", x.tree(), 23 * 150);
    }

    private static void nextTrees() {
        EssayBones x = Check.withSigns();
        Check.due("no essay", x.next(), -1);
        Check.read(x, "A.");
        Check.due("no other tree", x.next(), -1);
        Check.read(x, "A. B.");
        Check.due("two trees", x.tree(), 12);
        Check.due("of one cost", x.next(), 12);
        Check.read(x, "A. Because b.");
        Check.due("a tree", x.tree(), 12);
        Check.due("and a dearer one", x.next(), 22);
        Check.read(x, "A. Because a. Because a.");
        Check.due("a chain", x.tree(), 9 + 9);
        Check.due("both on the first", x.next(), 9 + 9 + 2);
        x.weight(0, 50);
        Check.due("a root that costs", x.next(), 9 + 9 + 10);
        x.weight(2, 50);
        Check.due("both cost the same", x.next(), 9 + 9 + 50);
        x.weight(2, 0);
        Check.due("signs weigh nothing", x.next(), 9 + 9);
    }

    private static void bareAndOpen() {
        findings("We go.", 1);
        findings("So go.", 1);
        findings("We go. Because we go up.", 0, 0);
        findings("We go. Say we go up.", 0, 0);
        findings("So we go. Because we go up.", 0, 0);
        findings("We go. But we stay.", 1, 2);
        findings("We go. We stay.", 1, 1);
        findings("We go. But stay on. Because stay on top.", 1, 0, 0);
        findings("We go. Because we go up. All run.", 0, 0, 1);
    }

    private static void twice() {
        findings("Rain helps all. Because rain helps corn. Because rain helps roads.", 0, 0, 4);
        findings("Rain helps. Because rain corn. Because rain roads.", 0, 0, 4);
        findings("Rain helps. Because rain corn. Because rain roads now.", 0, 0, 0);
        findings("Rain. Because corn. Because. Because.", 0, 0, 0, 0);
        // It is measured by its own keys, not by those of the earlier one.
        findings("Rain helps. Because rain a b c d. Because rain e.", 0, 0, 4);
        findings("Rain helps. Because rain e. Because rain a b c d.", 0, 0, 0);
        // Any kind, and any earlier one that hangs there.
        findings("Rain. Because rain a. Because b. But rain c.", 0, 0, 0, 4 | 2);
        EssayBones x = plain("Rain helps all. Because rain helps corn. Because rain helps roads.");
        x.weight(0, 50);
        Check.heads("a chain", x, -1, 0, 1);
        Check.due("hangs on another one", x.finding(2), 0);
    }

    private static void stale() {
        findings("A b. C d. A c d.", 1, 1, 1 | 8);
        findings("A b. C d. A c d e.", 1, 1, 1);
        findings("A a. Because. Say a.", 0, 0, 8);
        EssayBones x = plain("A b. Because a b.");
        Check.due("nothing new", x.finding(1), 8);
        Check.stop(x, "a");
        Check.stop(x, "b");
        Check.due("no keys", x.finding(1), 0);
        Check.stop(x, "a");
        Check.due("one again", x.finding(1), 8);
        // Earlier is as they stand now.
        EssayBones y = plain("A b c. Because a. Because b.");
        Check.due("nothing new", y.finding(2), 8);
        Check.due("move", y.move(2, 0), 3);
        Check.due("it is the first now", y.finding(0) & 8, 0);
        Check.due("and loose", y.finding(0) & 16, 16);
        Check.due("the others", y.finding(1) & 8, 0);
        Check.due("the others", y.finding(2) & 8, 8);
    }

    /** With more than a hundred keys. */
    private static void staleAmongMany() {
        String[] all = EssayTest.unlikeWords().split("\\.");
        String some = all[0].substring(0, 40) + all[8].substring(0, 40) + all[12].substring(72);
        EssayBones x = new EssayBones();
        Check.due("read", Check.read(x, all[0] + "." + all[4] + "." + all[8] + "." + all[12] + "."
                + some + "." + some + "new." + all[13] + "." + all[12] + "." + all[11] + "."), 9);
        Check.due("keys", x.sentence(4, 1), 30);
        int[] want = {0, 0, 0, 0, 8, 0, 0, 8, 0};
        for (int i = 0; i < want.length; i++) {
            Check.due("stale " + i, x.finding(i) & 8, want[i]);
        }
    }

    private static void loose() {
        findings("Because we.", 16);
        findings("But we.", 16 | 2);
        findings("Say we.", 16);
        findings("So we.", 1);
        findings("We we.", 1);
        findings("We. Because a. Say b.", 0, 0, 0);
    }

    private static void marks() {
        EssayBones x = plain("But rain. We rain so. Because rain. Because rain rain. Because b.");
        int[] sums = new int[5];
        for (int i = 0; i < 5; i++) {
            for (int k = 0; k < 5; k++) {
                sums[k] += x.finding(i) >> k & 1;
            }
        }
        Check.due("bare", x.marks(1, 0, 0, 0, 0), sums[0]);
        Check.due("open", x.marks(0, 1, 0, 0, 0), sums[1]);
        Check.due("twice", x.marks(0, 0, 1, 0, 0), sums[2]);
        Check.due("stale", x.marks(0, 0, 0, 1, 0), sums[3]);
        Check.due("loose", x.marks(0, 0, 0, 0, 1), sums[4]);
        Check.due("there are stale ones", sums[3], 2);
        Check.due("there is a loose one", sums[4], 1);
        Check.due("all", x.marks(100, -100, 7, -50, 3),
                100 * sums[0] - 100 * sums[1] + 7 * sums[2] - 50 * sums[3] + 3 * sums[4]);
        Check.due("above 100", x.marks(101, 0, 0, 0, 0), -2);
        Check.due("above 100", x.marks(0, 101, 0, 0, 0), -2);
        Check.due("above 100", x.marks(0, 0, 101, 0, 0), -2);
        Check.due("above 100", x.marks(0, 0, 0, 101, 0), -2);
        Check.due("below -100", x.marks(0, 0, 0, 0, -101), -2);
        Check.due("far off", x.marks(0, 0, Integer.MIN_VALUE, 0, 0), -2);
        EssayBones y = plain("But a. We b.");
        Check.due("one of each", y.marks(1, 10, 100, -100, 5), 5 + 1);
        Check.due("no essay", new EssayBones().marks(100, 100, 100, 100, 100), 0);
        Check.due("no essay, no points", new EssayBones().marks(100, 100, 100, 100, 101), -2);
    }
}
