/**
 * The document from its first promise to its last, a method each. Most of it is about one essay,
 * whose costs, tree and findings were worked out by hand from the document:
 *
 * <pre>
 *      SENTENCE            KIND        KEYS               hangs on, at a cost
 *   0  Rain is good.       CLAIM       rain is good       4   2*3 + 3*3 + 5 = 20
 *   1  Because the rain..  REASON      rain feed corn     0         3*3     =  9
 *   2  Say corns.          EXAMPLE     corn               1         3*3     =  9
 *   3  But rain floods ..  COUNTER     rain flood road    1   2*1 + 3*3     = 11
 *   4  So rain helps.      CONCLUSION  rain help          none                 0
 * </pre>
 */
public final class PromisesTest {
    private static final String TEXT =
            "Rain is good. Because the rain feeds corn. Say corns. But rain floods roads!\n\nSo, rain helps?";
    private static final int LEAST = Integer.MIN_VALUE;
    private static final int MOST = Integer.MAX_VALUE;

    public static void main(String[] args) {
        constants();
        newObject();
        feed();
        end();
        stop();
        sign();
        ending();
        weight();
        read();
        fault();
        sentence();
        word();
        shared();
        cost();
        tree();
        next();
        finding();
        marks();
        pair();
        order();
        ordered();
        stands();
        arrange();
        move();
        count();
        Check.close();
    }

    /** The essay, with a sign of each kind, a stop and an ending. */
    private static EssayBones told() {
        EssayBones x = Check.withSigns();
        Check.due("the", Check.stop(x, "the"), 1);
        Check.due("s", Check.ending(x, "s"), 1);
        return Check.essay(x, TEXT, 5);
    }

    private static void constants() {
        Check.says("`NONE = -1`: There is none.");
        Check.due("NONE", EssayBones.NONE, -1);
        Check.says("`RANGE = -2`: A number that can't be.");
        Check.due("RANGE", EssayBones.RANGE, -2);
        Check.says("`FULL = -3`: No room.");
        Check.due("FULL", EssayBones.FULL, -3);
    }

    private static void newObject() {
        Check.says("No essay, no STOPS, SIGNS, ENDINGS, PAIRS.");
        EssayBones x = new EssayBones();
        for (int what = 0; what <= 6; what++) {
            Check.due("count " + what, x.count(what), 0);
        }
        Check.due("root", x.count(7), -1);
        Check.due("tree", x.tree(), -1);
        EssayBones other = told();
        Check.due("another object's essay is not its own", x.count(0), 0);
        Check.due("nor are its signs", x.count(3), 0);
        Check.due("the other one has them", other.count(3), 4);
    }

    private static void feed() {
        Check.says("Twenty bytes come behind THE TAPE, the highest of each int first: how many it has; "
                + "FULL when there would be more than 3000.");
        EssayBones x = new EssayBones();
        Check.due("feed", x.feed(0x41622063, 0x642e2020, 0x20202020, 0x20202020, 0x2065662e), 20);
        Check.due("read", x.read(), 2);
        Check.due("first byte", x.word(0, 0, 0), 'a');
        Check.due("its second", x.word(0, 0, 1), 'b');
        Check.due("last byte but the end", x.word(1, 0, 1), 'f');
        for (int k = 1; k <= 150; k++) {
            Check.due("feed " + k, x.feed(LEAST, MOST, 0, -1, 1), 20 * k);
        }
        Check.due("feed beyond 3000", x.feed(LEAST, MOST, 0, -1, 1), -3);
        Check.due("as many as before", x.count(6), 3000);
    }

    private static void end() {
        Check.says("THE TAPE has its first n bytes alone: n; NONE when it has not so many, or n is below 0.");
        EssayBones x = new EssayBones();
        x.feed(0x61622e63, 0x642e2e2e, 0, 0, 0);
        for (int n : new int[] {-1, 21, LEAST, MOST}) {
            Check.due("end " + n + " of 20", x.end(n), -1);
        }
        Check.due("all 20 stay", x.end(20), 20);
        Check.due("end 3", x.end(3), 3);
        Check.due("read", x.read(), 1);
        Check.due("b is there", x.word(0, 0, 1), 'b');
        Check.due("end of an empty one", x.end(0), 0);
        Check.due("one more than it has", x.end(1), -1);
    }

    private static void stop() {
        Check.says("THE TAPE (read) is a word (1 .. 16 bytes of words): a STOP, or, if it is one, "
                + "none any more: how many there are. RANGE: no word; FULL.");
        EssayBones x = told();
        Check.due("rain", Check.stop(x, "RAIN"), 2);
        Check.due("the tape is empty", x.count(6), 0);
        Check.due("one of three keys less", x.sentence(0, 1), 2);
        Check.due("rain once more", Check.stop(x, "rain"), 1);
        Check.due("three keys", x.sentence(0, 1), 3);
        Check.due("16 bytes", Check.stop(x, "abcdefghij'12345"), 2);
        for (String none : new String[] {"", "abcdefghij'123456", "a b", "a.", "a-b"}) {
            Check.due("no word: " + none, Check.stop(x, none), -2);
        }
        for (int k = 3; k <= 60; k++) {
            Check.due("stop " + k, Check.stop(x, "w" + k), k);
        }
        Check.due("stop 61", Check.stop(x, "w61"), -3);
        Check.due("60 there are", x.count(2), 60);
    }

    private static void sign() {
        Check.says("Likewise a SIGN of a KIND 1 .. 4 (0: none any more): how many there are. "
                + "RANGE: no word, KIND; FULL.");
        EssayBones x = told();
        Check.due("Rain", Check.sign(x, "Rain", 4), 5);
        Check.due("the first is a CONCLUSION", x.sentence(0, 2), 4);
        Check.due("its first word is no key", x.sentence(0, 1), 2);
        Check.due("of another KIND", Check.sign(x, "rain", 1), 5);
        Check.due("the first is a REASON", x.sentence(0, 2), 1);
        Check.due("none any more", Check.sign(x, "rain", 0), 4);
        Check.due("the first is a CLAIM", x.sentence(0, 2), 0);
        Check.due("none was", Check.sign(x, "rain", 0), 4);
        Check.due("KIND 5", Check.sign(x, "rain", 5), -2);
        Check.due("KIND -1", Check.sign(x, "rain", -1), -2);
        Check.due("no word", Check.sign(x, "rain.", 1), -2);
        for (int k = 5; k <= 30; k++) {
            Check.due("sign " + k, Check.sign(x, "w" + k, 2), k);
        }
        Check.due("sign 31", Check.sign(x, "w31", 2), -3);
        Check.due("30 there are", x.count(3), 30);
    }

    private static void ending() {
        Check.says("Likewise an ENDING (1 .. 6 bytes), or none any more: how many there are. RANGE; FULL.");
        EssayBones x = told();
        Check.due("corns and corn", x.shared(1, 2), 1);
        Check.due("s is none any more", Check.ending(x, "S"), 0);
        Check.due("corns and corn are two", x.shared(1, 2), 0);
        Check.due("six bytes", Check.ending(x, "abcdef"), 1);
        Check.due("seven bytes", Check.ending(x, "abcdefg"), -2);
        Check.due("no byte", Check.ending(x, ""), -2);
        Check.due("a blank", Check.ending(x, "a b"), -2);
        for (int k = 2; k <= 10; k++) {
            Check.due("ending " + k, Check.ending(x, "e" + k), k);
        }
        Check.due("ending 11", Check.ending(x, "e11"), -3);
        Check.due("10 there are", x.count(4), 10);
    }

    private static void weight() {
        Check.says("WEIGHT i (0 NEAR, 1 WORDS, 2 SIGNS, 3 PARAS) is v: what it was; RANGE.");
        EssayBones x = told();
        int[] first = {2, 3, 10, 5};
        for (int i = 0; i < 4; i++) {
            Check.due("weight " + i, x.weight(i, 0), first[i]);
        }
        Check.due("all for nothing", x.cost(0, 4), 0);
        int[] byWeight = {3, 3, 1, 1};
        for (int i = 0; i < 4; i++) {
            Check.due("weight " + i + " alone", x.weight(i, 50), 0);
            Check.due("the cost by it", x.cost(0, 4), 50 * byWeight[i]);
            Check.due("and back", x.weight(i, 0), 50);
        }
        for (int v : new int[] {-1, 51, LEAST, MOST}) {
            Check.due("weight of " + v, x.weight(0, v), -2);
        }
        for (int i : new int[] {-1, 4, LEAST, MOST}) {
            Check.due("no weight " + i, x.weight(i, 1), -2);
        }
        Check.due("nothing was changed", x.cost(0, 4), 0);
    }

    private static void read() {
        Check.says("THE TAPE (read) is the essay: how many SENTENCES (there are no PAIRS then); NONE with a FAULT.");
        EssayBones x = told();
        Check.due("the tape is empty", x.count(6), 0);
        Check.due("pair", x.pair(0, 1), 1);
        Check.due("a fault", Check.read(x, "One. two"), -1);
        Check.due("the essay is the one before", x.count(0), 5);
        Check.due("with its pair", x.count(5), 1);
        Check.due("another essay", Check.read(x, "One. Two."), 2);
        Check.due("its sentences", x.count(0), 2);
        Check.due("no pairs", x.count(5), 0);
    }

    private static void fault() {
        Check.says("Of the latest read(), what 0: its FAULT's KIND, 0 without (and ahead of any), "
                + "1: its PLACE (NONE). NONE for another what.");
        EssayBones x = new EssayBones();
        Check.due("ahead of any", x.fault(0), 0);
        Check.due("its place", x.fault(1), -1);
        Check.faulty(x, "a (b).", 1, 2);
        Check.faulty(x, "abcdefghijklmnopq.", 2, 16);
        Check.faulty(x, "a ".repeat(41) + ".", 3, 80);
        Check.faulty(x, "a.".repeat(25), 4, 48);
        Check.faulty(x, "a. .", 5, 3);
        Check.faulty(x, "a. b", 6, 4);
        Check.faulty(x, "", 6, 0);
        Check.essay(x, "a.", 1);
        Check.due("no place without one", x.fault(1), -1);
        Check.faulty(x, "?", 5, 0);
        for (int what : new int[] {-1, 2, LEAST, MOST}) {
            Check.due("fault " + what, x.fault(what), -1);
        }
    }

    private static void sentence() {
        Check.says("Of SENTENCE i, what 0: words, 1: KEYS, 2: KIND, 3: PARAGRAPH, 4: HEAD (NONE of the ROOT), "
                + "5: how many hang on it, 6: how many its PART has, 7: which one it was in the text that was read. "
                + "-2 when there is none such.");
        int[][] want = {
            {3, 3, 0, 0, 4, 1, 4, 0},
            {5, 3, 1, 0, 0, 2, 3, 1},
            {2, 1, 3, 0, 1, 0, 1, 2},
            {4, 3, 2, 0, 1, 0, 1, 3},
            {3, 2, 4, 1, -1, 1, 5, 4}};
        EssayBones x = told();
        for (int i = 0; i < want.length; i++) {
            for (int what = 0; what < 8; what++) {
                Check.due("sentence " + i + ", " + what, x.sentence(i, what), want[i][what]);
            }
        }
        for (int none : new int[] {-1, 8, LEAST, MOST}) {
            Check.due("what " + none, x.sentence(0, none), -2);
            Check.due("sentence " + none, x.sentence(none, 0), -2);
        }
        Check.due("sentence 5 of 5", x.sentence(5, 4), -2);
    }

    private static void word() {
        Check.says("Word k of SENTENCE i, j-th byte (small letters); NONE.");
        EssayBones x = told();
        String[] words = {"because", "the", "rain", "feeds", "corn"};
        for (int k = 0; k < words.length; k++) {
            for (int j = 0; j < words[k].length(); j++) {
                Check.due("word " + k + ", " + j, x.word(1, k, j), words[k].charAt(j));
            }
            Check.due("behind word " + k, x.word(1, k, words[k].length()), -1);
            Check.due("ahead of word " + k, x.word(1, k, -1), -1);
        }
        Check.due("word 5 of 5", x.word(1, 5, 0), -1);
        Check.due("word -1", x.word(1, -1, 0), -1);
        Check.due("sentence 5 of 5", x.word(5, 0, 0), -1);
        Check.due("sentence -1", x.word(-1, 0, 0), -1);
    }

    private static void shared() {
        Check.says("How many KEYS two SENTENCES both have; RANGE.");
        int[][] want = {
            {3, 1, 0, 1, 1},
            {1, 3, 1, 1, 1},
            {0, 1, 1, 0, 0},
            {1, 1, 0, 3, 1},
            {1, 1, 0, 1, 2}};
        EssayBones x = told();
        for (int i = 0; i < 5; i++) {
            for (int j = 0; j < 5; j++) {
                Check.due("shared " + i + ", " + j, x.shared(i, j), want[i][j]);
            }
            Check.due("with 5 of 5", x.shared(i, 5), -2);
            Check.due("with -1", x.shared(-1, i), -2);
        }
    }

    private static void cost() {
        Check.says("What it costs that d hangs on h; RANGE (also if they are the same).");
        int[][] want = {
            {-2, 9, 24, 13, 30},
            {9, -2, 9, 11, 28},
            {14, 19, -2, 12, 29},
            {13, 21, 22, -2, 24},
            {20, 28, 29, 24, -2}};
        EssayBones x = told();
        for (int h = 0; h < 5; h++) {
            for (int d = 0; d < 5; d++) {
                Check.due("cost " + h + ", " + d, x.cost(h, d), want[h][d]);
            }
            Check.due("5 of 5", x.cost(h, 5), -2);
            Check.due("on 5 of 5", x.cost(5, h), -2);
            Check.due("on -1", x.cost(-1, h), -2);
        }
    }

    private static void tree() {
        Check.says("What the TREE costs; NONE without an essay.");
        EssayBones x = told();
        Check.due("tree", x.tree(), 20 + 9 + 9 + 11);
        Check.heads("tree", x, 4, 0, 1, 1, -1);
        Check.due("no essay", new EssayBones().tree(), -1);
        Check.essay(x, "Because.", 1);
        Check.due("a REASON as the ROOT", x.tree(), 10);
        Check.essay(x, "So.", 1);
        Check.due("a CONCLUSION as the ROOT", x.tree(), 0);
        Check.says("Rows of heads: of SENTENCE 0, 1, ..; the ROOT's is -1.");
        Check.essay(x, "A. B.", 2);
        Check.heads("of two that cost the same, the first row", x, -1, 0);
    }

    private static void next() {
        Check.says("The least cost of another TREE; NONE: there is none other.");
        EssayBones x = told();
        // 3 on 2 costs 12, on 1 it is 11.
        Check.due("next", x.next(), 50);
        Check.due("no essay", new EssayBones().next(), -1);
        Check.essay(x, "A. B.", 2);
        Check.due("another one that costs the same", x.next(), 12);
        Check.essay(x, "A.", 1);
        Check.due("none other", x.next(), -1);
    }

    private static void finding() {
        Check.says("FINDINGS of SENTENCE i; RANGE.");
        EssayBones x = told();
        int[] want = {0, 0, 8, 2, 1};
        for (int i = 0; i < want.length; i++) {
            Check.due("finding " + i, x.finding(i), want[i]);
        }
        for (int none : new int[] {-1, 5, LEAST, MOST}) {
            Check.due("finding " + none, x.finding(none), -2);
        }
        // 1 and 2 hang on 0; 2 has one of its two KEYS with 1, and both are told.
        Check.essay(x, "Because rain wind sun. Because wind snow. Because snow rain.", 3);
        Check.weights(x, 0, 3, 10, 5);
        Check.heads("reasons", x, -1, 0, 0);
        Check.due("LOOSE", x.finding(0), 16);
        Check.due("none", x.finding(1), 0);
        Check.due("TWICE and STALE", x.finding(2), 4 | 8);
    }

    private static void marks() {
        Check.says("Points for BARE, OPEN, TWICE, STALE, LOOSE (-100 .. 100 each): the sum over all FINDINGS; "
                + "RANGE; 0 without an essay.");
        EssayBones x = told();
        Check.due("marks", x.marks(1, 10, 100, 50, -7), 1 + 10 + 50);
        Check.due("least and most", x.marks(-100, 100, 0, -100, 100), -100);
        Check.due("bare 101", x.marks(101, 0, 0, 0, 0), -2);
        Check.due("open -101", x.marks(0, -101, 0, 0, 0), -2);
        Check.due("twice 101", x.marks(0, 0, 101, 0, 0), -2);
        Check.due("stale -101", x.marks(0, 0, 0, -101, 0), -2);
        Check.due("loose 101", x.marks(0, 0, 0, 0, 101), -2);
        Check.due("no essay", new EssayBones().marks(1, 2, 3, 4, 5), 0);
    }

    private static void pair() {
        Check.says("A PAIR: SENTENCE a must stand ahead of b (those that they are now; they go along when "
                + "SENTENCES move): how many PAIRS. RANGE: no such, the same, b must be ahead of a (also through "
                + "others); FULL: 20 there are. (One that is there already changes nothing.)");
        EssayBones x = told();
        Check.due("pair", x.pair(3, 2), 1);
        Check.due("there already", x.pair(3, 2), 1);
        Check.due("the other way round", x.pair(2, 3), -2);
        Check.due("another", x.pair(2, 0), 2);
        Check.due("through another", x.pair(0, 3), -2);
        Check.due("the same", x.pair(1, 1), -2);
        Check.due("5 of 5", x.pair(1, 5), -2);
        Check.due("-1", x.pair(-1, 1), -2);
        Check.due("3 goes ahead of 0", x.move(3, 0), 4);
        Check.due("what was 3 is 0, and 2 is 3", x.pair(0, 3), 2);
        Check.essay(x, "a.b.c.d.e.f.g.", 7);
        int many = 0;
        for (int a = 0; a < 6 && many < 20; a++) {
            for (int b = a + 1; b < 7 && many < 20; b++) {
                many++;
                Check.due("pair " + many, x.pair(a, b), many);
            }
        }
        Check.due("pair 21", x.pair(5, 6), -3);
        Check.due("20 there are", x.count(5), 20);
    }

    private static void order() {
        Check.says("The cheapest ORDER of HEAD h: what it costs; NONE: none keeps what must be, or more than 9 "
                + "hang on it; RANGE.");
        EssayBones x = told();
        Check.due("1 and, behind it, 2 and 3", x.order(1), 1 + 2);
        Check.due("4 and, behind it, 0 with its PART", x.order(4), 1);
        Check.due("2 alone", x.order(2), 0);
        Check.due("5 of 5", x.order(5), -2);
        Check.due("-1", x.order(-1), -2);
        Check.due("2 ahead of 1", x.pair(2, 1), 1);
        Check.due("an EXAMPLE can't", x.order(1), -1);
        Check.due("0 does not care", x.order(0), 1);
    }

    private static void ordered() {
        Check.says("Of the latest order() that told a cost, the i-th of its row; NONE. "
                + "(As SENTENCES were numbered then.)");
        EssayBones x = told();
        Check.due("ahead of any", x.ordered(0), -1);
        Check.due("order", x.order(4), 1);
        Check.row("the ROOT and what hangs on it", x, 4, 0);
        Check.due("order", x.order(1), 3);
        Check.row("of two that cost the same, the first row", x, 1, 2, 3);
        Check.due("pair", x.pair(3, 2), 1);
        Check.due("order", x.order(1), 3);
        Check.row("with a pair", x, 1, 3, 2);
        Check.due("no cost", x.order(9), -2);
        Check.due("arrange", x.arrange(1), 2);
        Check.row("as they were numbered then", x, 1, 3, 2);
    }

    private static void stands() {
        Check.says("What it costs as it stands: the sum of how far h is from each that hangs on it; RANGE.");
        EssayBones x = told();
        int[] want = {1, 3, 0, 0, 4};
        for (int h = 0; h < want.length; h++) {
            Check.due("stands " + h, x.stands(h), want[h]);
        }
        for (int none : new int[] {-1, 5, LEAST, MOST}) {
            Check.due("stands " + none, x.stands(none), -2);
        }
    }

    private static void arrange() {
        Check.says("The PART of h is put in its cheapest ORDER: how many SENTENCES stand elsewhere than before; "
                + "NONE as order(); RANGE. (PARAGRAPHS stay with their places.)");
        EssayBones x = told();
        Check.due("0 stands well", x.arrange(0), 0);
        Check.due("5 of 5", x.arrange(5), -2);
        Check.due("4 goes ahead", x.arrange(4), 5);
        Check.were("arranged", x, 4, 0, 1, 2, 3);
        int[] paragraphs = {0, 0, 0, 0, 1};
        for (int i = 0; i < paragraphs.length; i++) {
            Check.due("paragraph of place " + i, x.sentence(i, 3), paragraphs[i]);
        }
        x = told();
        Check.due("pair", x.pair(2, 1), 1);
        Check.due("none keeps it", x.arrange(1), -1);
        Check.were("not arranged", x, 0, 1, 2, 3, 4);
    }

    private static void move() {
        Check.says("The PART of d is moved so that it stands just ahead of SENTENCE e (e as many as there are: at "
                + "the end), that isn't of it: how many SENTENCES stand elsewhere; RANGE. "
                + "(PARAGRAPHS stay with their places.)");
        EssayBones x = told();
        for (int e : new int[] {1, 2, 3, -1, 6, LEAST, MOST}) {
            Check.due("1, 2 and 3 ahead of " + e, x.move(1, e), -2);
        }
        Check.due("no sentence 5", x.move(5, 0), -2);
        Check.due("where it stands", x.move(1, 4), 0);
        Check.due("1, 2 and 3 ahead of 0", x.move(1, 0), 4);
        Check.were("moved ahead", x, 1, 2, 3, 0, 4);
        x = told();
        Check.due("0 to 3 at the end", x.move(0, 5), 5);
        Check.were("moved to the end", x, 4, 0, 1, 2, 3);
        Check.due("the last place's paragraph", x.sentence(4, 3), 1);
        Check.due("the first place's paragraph", x.sentence(0, 3), 0);
        Check.due("the words went along", x.word(0, 0, 0), 's');
    }

    private static void count() {
        Check.says("What 0: SENTENCES, 1: PARAGRAPHS, 2: STOPS, 3: SIGNS, 4: ENDINGS, 5: PAIRS, 6: bytes of "
                + "THE TAPE, 7: the ROOT (NONE); 10 + i: WEIGHT i. NONE for others.");
        EssayBones x = told();
        Check.due("pair", x.pair(0, 1), 1);
        Check.tape(x, "eight by");
        int[] want = {5, 2, 1, 4, 1, 1, 8, 4, -1, -1, 2, 3, 10, 5, -1};
        for (int what = 0; what < want.length; what++) {
            Check.due("count " + what, x.count(what), want[what]);
        }
        for (int none : new int[] {-1, LEAST, MOST}) {
            Check.due("count " + none, x.count(none), -1);
        }
    }
}
