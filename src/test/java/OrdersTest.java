/** Promises 18 (pair), 19 (order), 20 (ordered), 21 (stands), 22 (arrange) and 23 (move). */
public final class OrdersTest {
    public static void main(String[] args) {
        pairs();
        pairsUpToFull();
        pairsGoAlong();
        orders();
        ordersWithPairs();
        ordersWithSigns();
        nineAndTen();
        orderedStays();
        arrange();
        arrangeInside();
        move();
        moveBehind();
        paragraphsStay();
        Check.close();
    }

    /** Only shared words weigh: each hangs on the first one that it shares a word with. */
    static EssayBones byWords(String text) {
        EssayBones x = Check.withSigns();
        x.weight(0, 0);
        x.weight(1, 50);
        x.weight(2, 0);
        x.weight(3, 0);
        Check.due("read " + text, Check.read(x, text) > 0 ? 1 : 0, 1);
        return x;
    }

    /** One with so many others that hang on it. */
    static EssayBones star(int many) {
        StringBuilder text = new StringBuilder();
        for (int k = 1; k <= many; k++) {
            text.append('k').append(k).append(' ');
        }
        for (int k = 1; k <= many; k++) {
            text.append(". k").append(k);
        }
        return byWords(text.append('.').toString());
    }

    private static void pairs() {
        EssayBones x = new EssayBones();
        Check.due("no essay", x.pair(0, 1), -2);
        Check.read(x, "A. B. C. D. E.");
        Check.due("a pair", x.pair(0, 1), 1);
        Check.due("there already", x.pair(0, 1), 1);
        Check.due("the other way round", x.pair(1, 0), -2);
        Check.due("the same", x.pair(2, 2), -2);
        Check.due("as it does not stand", x.pair(3, 2), 2);
        Check.due("and another", x.pair(1, 3), 3);
        Check.due("through others", x.pair(2, 0), -2);
        Check.due("through one other", x.pair(2, 1), -2);
        Check.due("the long way", x.pair(0, 2), 4);
        Check.due("free ones", x.pair(4, 0), 5);
        Check.due("now they are not", x.pair(2, 4), -2);
        Check.due("pairs", x.count(5), 5);
        for (int bad : new int[] {-1, 5, Integer.MAX_VALUE, Integer.MIN_VALUE}) {
            Check.due("no such", x.pair(bad, 0), -2);
            Check.due("no such", x.pair(0, bad), -2);
        }
    }

    private static void pairsUpToFull() {
        EssayBones x = new EssayBones();
        Check.read(x, "a.".repeat(24));
        // Told from the far end, so that a way through them all runs against their order.
        for (int k = 20; k >= 1; k--) {
            Check.due("pair " + k, x.pair(k - 1, k), 21 - k);
        }
        Check.due("a 21st", x.pair(0, 21), -3);
        Check.due("one that is there", x.pair(4, 5), 20);
        Check.due("round the whole chain", x.pair(20, 0), -2);
        Check.due("the same", x.pair(3, 3), -2);
        Check.due("pairs", x.count(5), 20);
    }

    private static void pairsGoAlong() {
        EssayBones x = new EssayBones();
        Check.read(x, "A. B. C.");
        Check.due("a pair", x.pair(0, 2), 1);
        Check.due("move the last to the front", x.move(2, 0), 3);
        Check.were("moved", x, 2, 0, 1);
        Check.due("there already", x.pair(1, 0), 1);
        Check.due("the other way round", x.pair(0, 1), -2);
        Check.due("free ones", x.pair(0, 2), 2);
        Check.due("through others", x.pair(2, 1), -2);
    }

    private static void orders() {
        EssayBones x = new EssayBones();
        Check.due("nothing told", x.ordered(0), -1);
        Check.due("no essay", x.order(0), -2);
        x = star(3);
        Check.heads("a star", x, -1, 0, 0, 0);
        Check.due("as it stands", x.stands(0), 6);
        Check.due("best with the head inside", x.order(0), 4);
        Check.row("the first such row", x, 1, 0, 2, 3);
        Check.due("nothing hangs", x.stands(2), 0);
        Check.due("a leaf", x.order(2), 0);
        Check.row("a leaf", x, 2);
        for (int bad : new int[] {-1, 4, Integer.MAX_VALUE, Integer.MIN_VALUE}) {
            Check.due("no such", x.order(bad), -2);
            Check.due("no such", x.stands(bad), -2);
            Check.due("no such", x.arrange(bad), -2);
            Check.due("no such", x.ordered(bad), -1);
        }
        Check.row("as before", x, 2);
        Check.due("order alone moves nothing", x.stands(0), 6);
    }

    private static EssayBones withPart() {
        EssayBones x = byWords("A b. A m n. M. N. B.");
        Check.heads("with a part", x, -1, 0, 1, 1, 0);
        return x;
    }

    private static void ordersWithPairs() {
        EssayBones x = withPart();
        Check.due("as it stands", x.stands(0), 5);
        Check.due("of the part", x.stands(1), 3);
        Check.due("free", x.order(0), 2);
        Check.row("free", x, 4, 0, 1);
        Check.due("the head ahead of 4", x.pair(0, 4), 1);
        Check.due("bound", x.order(0), 3);
        Check.row("bound", x, 0, 4, 1);
        Check.due("one inside a part ahead of 4", x.pair(2, 4), 2);
        Check.due("bound twice", x.order(0), 4);
        Check.row("bound twice", x, 1, 0, 4);
        Check.due("the head ahead of one inside", x.pair(0, 3), 3);
        Check.due("bound thrice", x.order(0), 5);
        Check.row("bound thrice", x, 0, 1, 4);
        Check.due("within one part", x.pair(3, 2), 4);
        Check.due("says nothing here", x.order(0), 5);
        Check.due("but there", x.order(1), 2);
        Check.row("but there", x, 3, 1, 2);
        Check.due("two parts each ahead of the other", x.pair(4, 1), 5);
        Check.due("none keeps that", x.order(0), -1);
        Check.due("none keeps that", x.arrange(0), -1);
        Check.row("as the latest that told a cost", x, 3, 1, 2);
        Check.were("nothing moved", x, 0, 1, 2, 3, 4);
    }

    private static void ordersWithSigns() {
        EssayBones x = byWords("A b c d. Because a. But b. Say c.");
        Check.heads("signs", x, -1, 0, 0, 0);
        Check.due("all behind the head", x.order(0), 6);
        Check.row("all behind the head", x, 0, 1, 2, 3);
        Check.sign(x, "say", 4);
        Check.due("a conclusion may be ahead", x.order(0), 4);
        Check.row("a conclusion may be ahead", x, 3, 0, 1, 2);
        Check.sign(x, "because", 0);
        Check.due("so may a claim", x.order(0), 4);
        Check.row("so may a claim", x, 1, 0, 2, 3);
        Check.due("a counter ahead of the head", x.pair(2, 0), 1);
        Check.due("none keeps that", x.order(0), -1);
        Check.sign(x, "but", 0);
        Check.due("it is none any more", x.order(0), 4);
        Check.row("it is none any more", x, 1, 2, 0, 3);
    }

    private static void nineAndTen() {
        EssayBones x = star(9);
        Check.due("nine hang on it", x.sentence(0, 5), 9);
        Check.due("as it stands", x.stands(0), 45);
        Check.due("nine", x.order(0), 10 + 15);
        Check.row("nine", x, 1, 2, 3, 4, 0, 5, 6, 7, 8, 9);
        Check.due("arrange", x.arrange(0), 5);
        Check.were("nine", x, 1, 2, 3, 4, 0, 5, 6, 7, 8, 9);
        EssayBones y = star(10);
        Check.due("ten hang on it", y.sentence(0, 5), 10);
        Check.due("as it stands", y.stands(0), 55);
        Check.due("ten", y.order(0), -1);
        Check.due("ten", y.arrange(0), -1);
        Check.due("nothing told", y.ordered(0), -1);
        EssayBones z = star(9);
        for (int k = 9; k > 1; k--) {
            Check.due("pair", z.pair(k, k - 1), 10 - k);
        }
        Check.due("all bound", z.order(0), 10 + 15);
        Check.row("all bound", z, 9, 8, 7, 6, 0, 5, 4, 3, 2, 1);
        Check.due("the head first", z.pair(0, 9), 9);
        Check.due("the head first", z.order(0), 45);
        Check.row("the head first", z, 0, 9, 8, 7, 6, 5, 4, 3, 2, 1);
    }

    private static void orderedStays() {
        EssayBones x = star(3);
        x.order(0);
        Check.due("arrange is no order", x.arrange(2), 0);
        Check.row("as before", x, 1, 0, 2, 3);
        Check.due("arrange", x.arrange(0), 2);
        Check.row("as they were numbered then", x, 1, 0, 2, 3);
        Check.due("read", Check.read(x, "A."), 1);
        Check.row("told of an essay before", x, 1, 0, 2, 3);
        Check.due("order", x.order(0), 0);
        Check.row("the latest", x, 0);
    }

    private static void arrange() {
        EssayBones x = withPart();
        Check.due("arrange", x.arrange(0), 5);
        Check.were("arranged", x, 4, 0, 1, 2, 3);
        Check.due("words go along", x.word(0, 0, 0), 'b');
        Check.heads("the tree is found anew", x, -1, 0, 1, 2, 2);
        Check.due("nothing is better", x.arrange(0), 0);
        Check.were("arranged", x, 4, 0, 1, 2, 3);
    }

    /** Only the part of the one that is arranged moves. */
    private static void arrangeInside() {
        EssayBones x = withPart();
        Check.due("order", x.order(1), 2);
        Check.row("order", x, 2, 1, 3);
        Check.due("arrange", x.arrange(1), 2);
        Check.were("arranged", x, 0, 2, 1, 3, 4);
        Check.due("stands now", x.stands(2), 2);
        EssayBones y = withPart();
        y.pair(4, 1);
        y.pair(3, 1);
        Check.due("pairs with those outside say nothing", y.arrange(1), 3);
        Check.were("arranged", y, 0, 3, 1, 2, 4);
    }

    private static void move() {
        EssayBones x = new EssayBones();
        Check.read(x, "Aa. Aa. Aa. Aa.");
        Check.heads("a chain", x, -1, 0, 1, 2);
        for (int e = 1; e < 4; e++) {
            Check.due("ahead of one of its own", x.move(1, e), -2);
        }
        Check.due("all of it", x.move(0, 0), -2);
        Check.due("all of it, at the end already", x.move(0, 4), 0);
        Check.due("at the end already", x.move(3, 4), 0);
        Check.due("at the end already", x.move(1, 4), 0);
        Check.due("no such place", x.move(3, -1), -2);
        Check.due("no such place", x.move(3, 5), -2);
        Check.due("no such place", x.move(3, Integer.MAX_VALUE), -2);
        Check.due("no such sentence", x.move(-1, 0), -2);
        Check.due("no such sentence", x.move(4, 0), -2);
        Check.due("no such sentence", x.move(Integer.MIN_VALUE, 0), -2);
        Check.were("nothing moved", x, 0, 1, 2, 3);
        Check.due("two of them", x.move(2, 1), 3);
        Check.were("two of them", x, 0, 2, 3, 1);
        Check.due("two of them to the front", x.move(2, 0), 4);
        Check.were("two of them to the front", x, 3, 1, 0, 2);
        Check.due("pairs do not hinder", x.pair(0, 3), 1);
        Check.due("one to the front", x.move(3, 0), 4);
        Check.were("one to the front", x, 2, 3, 1, 0);
        Check.due("the pair is there", x.count(5), 1);
    }

    private static EssayBones backwards() {
        EssayBones x = Check.withSigns();
        Check.read(x, "Aa. Aa. Aa. So aa.");
        Check.heads("backwards", x, 1, 2, 3, -1);
        return x;
    }

    private static void moveBehind() {
        EssayBones x = backwards();
        Check.due("one", x.move(0, 3), 3);
        Check.were("one", x, 1, 2, 0, 3);
        x = backwards();
        Check.due("two", x.move(1, 3), 3);
        Check.were("two", x, 2, 0, 1, 3);
        x = backwards();
        Check.due("just ahead already", x.move(1, 2), 0);
        Check.were("just ahead already", x, 0, 1, 2, 3);
        Check.due("to the end", x.move(1, 4), 4);
        Check.were("to the end", x, 2, 3, 0, 1);
    }

    private static void paragraphsStay() {
        EssayBones x = new EssayBones();
        Check.read(x, "Aa bb. Aa bb.\n\nAa bb. Aa bb.");
        int[] paragraphs = {0, 0, 1, 1};
        Check.due("cost", x.cost(1, 3), 2 + 6 + 5);
        Check.due("move", x.move(3, 0), 4);
        Check.were("moved", x, 3, 0, 1, 2);
        for (int i = 0; i < 4; i++) {
            Check.due("paragraph " + i, x.sentence(i, 3), paragraphs[i]);
        }
        Check.due("cost", x.cost(0, 1), 6);
        Check.due("cost", x.cost(0, 2), 2 + 6 + 5);
        EssayBones y = byWords("A b.\n\nA. B.");
        Check.due("arrange", y.arrange(0), 2);
        Check.were("arranged", y, 1, 0, 2);
        Check.due("paragraph", y.sentence(0, 3), 0);
        Check.due("paragraph", y.sentence(1, 3), 1);
        Check.due("paragraphs", y.count(1), 2);
    }
}
