/** The boundaries of ORDERS, promises 19 (order) to 23 (move), sentence by sentence. */
public final class OrderEdgesTest {
    private static final int[] FAR = {Integer.MIN_VALUE, Integer.MIN_VALUE + 1, -25, -2, 25, 1 << 16,
        Integer.MAX_VALUE - 1, Integer.MAX_VALUE};

    public static void main(String[] args) {
        orderBothSides();
        nothingHangs();
        nineHang();
        tenHang();
        nineWithParts();
        bySize();
        behindTheHead();
        noneKeeps();
        orderLeavesAll();
        orderedBothSides();
        orderedOfLatestThatTold();
        orderedAsNumberedThen();
        standsBothSides();
        standsAnew();
        standsSums();
        arrangeRange();
        arrangeNone();
        arrangeNothing();
        arrangeElsewhere();
        arrangePartAlone();
        arrangeKeepsParagraphs();
        moveBothSides();
        moveOfItsOwn();
        moveWhereItStands();
        moveToTheEnd();
        moveAhead();
        moveMost();
        moveKeepsParagraphs();
        refusedLeaveAll();
        Check.close();
    }

    private static void orderBothSides() {
        Check.says("The cheapest ORDER of HEAD h: what it costs");
        EssayBones x = new EssayBones();
        Check.due("no essay", x.order(0), -2);
        Check.essay(x, "a. a. a.", 3);
        Check.due("-1", x.order(-1), -2);
        Check.due("3", x.order(3), -2);
        for (int far : FAR) {
            Check.due("far off", x.order(far), -2);
        }
        Check.due("none told a cost", x.ordered(0), -1);
        Check.due("the first", x.order(0), 1);
        Check.due("the last", x.order(2), 0);
        Check.essay(x, "a.".repeat(24), 24);
        Check.due("the last of the most", x.order(23), 0);
        Check.row("the last of the most", x, 23);
        Check.due("none behind", x.order(24), -2);
    }

    private static void nothingHangs() {
        Check.says("h itself and their PARTS");
        EssayBones x = Check.essay(new EssayBones(), "a.", 1);
        Check.due("order", x.order(0), 0);
        Check.row("itself alone", x, 0);
        Check.due("stands", x.stands(0), 0);
        Check.due("arrange", x.arrange(0), 0);
    }

    private static int[] upTo(int last) {
        int[] row = new int[last + 1];
        for (int k = 0; k <= last; k++) {
            row[k] = k;
        }
        return row;
    }

    private static void nineHang() {
        Check.says("ORDERS of a HEAD h with at most 9 that hang on it");
        // With a ahead of it and the others behind, the sums are 1 + .. + a and 1 + .. + b.
        for (int many = 1; many <= 9; many++) {
            EssayBones x = OrdersTest.star(many);
            Check.due(many + " hang on it", x.sentence(0, 5), many);
            int ahead = many / 2;
            int behind = many - ahead;
            int[] row = firstOf(ahead, many);
            Check.due("as it stands", x.stands(0), many * (many + 1) / 2);
            Check.due("order of " + many, x.order(0), ahead * (ahead + 1) / 2 + behind * (behind + 1) / 2);
            Check.row("order of " + many, x, row);
            Check.due("arrange", x.arrange(0), ahead == 0 ? 0 : ahead + 1);
            Check.were("arranged", x, row);
        }
    }

    /** Of those that cost the same the first by number: 1, 2, .. up to half of them, and then 0. */
    private static int[] firstOf(int ahead, int many) {
        int[] row = upTo(many);
        for (int k = 0; k < ahead; k++) {
            row[k] = k + 1;
        }
        row[ahead] = 0;
        return row;
    }

    private static void tenHang() {
        Check.says("NONE: none keeps what must be, or more than 9 hang on it");
        for (int many : new int[] {10, 11, 23}) {
            EssayBones x = OrdersTest.star(many);
            Check.due(many + " hang on it", x.sentence(0, 5), many);
            Check.due("order", x.order(0), -1);
            Check.due("ordered", x.ordered(0), -1);
            Check.due("arrange", x.arrange(0), -1);
            Check.were("nothing moved", x, upTo(many));
            Check.due("stands tells a cost still", x.stands(0), many * (many + 1) / 2);
            Check.due("one on which nothing hangs", x.order(many), 0);
            Check.row("its row", x, many);
            Check.due("arrange is no order()", x.arrange(3), 0);
            Check.due("order", x.order(0), -1);
            Check.row("the row stays", x, many);
        }
        // Ten, until one of them hangs elsewhere.
        EssayBones y = OrdersTest.star(10);
        Check.due("ten", y.order(0), -1);
        Check.due("the last has no KEY any more", Check.stop(y, "k10"), 1);
        Check.due("but hangs on the first", y.order(0), -1);
        Check.weights(y, 1, 50, 0, 0);
        Check.heads("now on the one just ahead", y, -1, 0, 0, 0, 0, 0, 0, 0, 0, 0, 9);
        Check.due("nine", y.order(0), 10 + 15);
    }

    private static void nineWithParts() {
        Check.says("h itself and their PARTS, each as it stands, one behind the other in some order");
        StringBuilder text = new StringBuilder("k1 k2 k3 k4 k5 k6 k7 k8 k9.");
        for (int k = 1; k <= 9; k++) {
            text.append('k').append(k).append(" m").append(k).append(". m").append(k).append(".");
        }
        EssayBones x = OrdersTest.byWords(text.toString());
        Check.due("SENTENCES", x.count(0), 19);
        Check.due("nine", x.sentence(0, 5), 9);
        // Ahead of it they are 2, 4, .. away, behind it 1, 3, ..
        Check.due("as it stands", x.stands(0), 81);
        Check.due("order", x.order(0), 2 + 4 + 6 + 8 + 1 + 3 + 5 + 7 + 9);
        Check.row("order", x, 1, 3, 5, 7, 0, 9, 11, 13, 15, 17);
        Check.due("arrange", x.arrange(0), 9);
        Check.were("arranged", x, 1, 2, 3, 4, 5, 6, 7, 8, 0, 9, 10, 11, 12, 13, 14, 15, 16, 17, 18);
    }

    private static void bySize() {
        Check.says("It costs the sum of how far h is then from each that hangs on it.");
        // Three REASONS with PARTS of 3, 2 and 1.
        EssayBones x = OrdersTest.byWords("a b c. because a m n. m. n. because b o. o. because c.");
        Check.heads("three PARTS", x, -1, 0, 1, 1, 0, 4, 0);
        Check.due("as it stands", x.stands(0), 1 + 4 + 6);
        Check.due("the small ones first", x.order(0), 1 + 2 + 4);
        Check.row("the small ones first", x, 0, 6, 4, 1);
        Check.due("arrange", x.arrange(0), 6);
        Check.were("arranged", x, 0, 6, 4, 5, 1, 2, 3);
        EssayBones y = OrdersTest.byWords("a. m. n. so a m n.");
        y.weight(2, 50);
        Check.heads("all on the last", y, 3, 3, 3, -1);
        Check.due("as it stands", y.stands(3), 6);
        Check.due("two ahead, one behind", y.order(3), 4);
        Check.row("of those the first by number", y, 0, 1, 3, 2);
        // 1 is the last of its PART: near when that is ahead, a step farther when it is behind.
        EssayBones z = OrdersTest.byWords("x. x y. so y z. z.");
        z.weight(2, 50);
        Check.heads("the last of its PART", z, 1, 2, -1, 2);
        Check.due("ahead", z.order(2), 2);
        Check.row("ahead", z, 1, 2, 3);
        Check.due("0 is to be behind", z.pair(2, 0), 1);
        Check.due("behind", z.order(2), 1 + 2);
        Check.row("behind", z, 3, 2, 1);
        Check.due("as 3 is", z.pair(2, 3), 2);
        Check.due("both behind", z.order(2), 1 + 3);
        Check.row("both behind", z, 2, 3, 1);
    }

    private static void behindTheHead() {
        Check.says("REASONS, COUNTERS and EXAMPLES behind h");
        String[] starts = {"", "because ", "but ", "say ", "so "};
        for (int kind = 0; kind <= 4; kind++) {
            EssayBones x = OrdersTest.byWords("a b c. " + starts[kind] + "a. " + starts[kind] + "b. " + starts[kind] + "c.");
            Check.heads("KIND " + kind, x, -1, 0, 0, 0);
            boolean behind = kind >= 1 && kind <= 3;
            Check.due("KIND " + kind, x.order(0), behind ? 6 : 4);
            int[] free = {1, 0, 2, 3};
            Check.row("KIND " + kind, x, behind ? new int[] {0, 1, 2, 3} : free);
        }
        for (int kind = 1; kind <= 3; kind++) {
            EssayBones x = OrdersTest.byWords(starts[kind] + "a. b. so a b.");
            x.weight(2, 50);
            Check.heads("they stand ahead", x, 2, 2, -1);
            Check.due("as it stands", x.stands(2), 3);
            Check.due("one is to be behind", x.order(2), 2);
            Check.row("one is to be behind", x, 1, 2, 0);
            Check.due("arrange", x.arrange(2), 3);
            Check.were("arranged", x, 1, 2, 0);
        }
        // The head itself and what hangs farther down are bound by nothing.
        EssayBones y = OrdersTest.byWords("but a b. a m. but m. b.");
        Check.heads("farther down", y, -1, 0, 1, 0);
        Check.due("order", y.order(0), 2);
        Check.row("order", y, 3, 0, 1);
    }

    private static void noneKeeps() {
        Check.says("NONE: none keeps what must be");
        for (String start : new String[] {"because", "but", "say"}) {
            EssayBones x = OrdersTest.byWords("a b. " + start + " a. b.");
            Check.heads(start, x, -1, 0, 0);
            Check.due("one ahead, one behind", x.order(0), 2);
            Check.row("one ahead, one behind", x, 2, 0, 1);
            Check.due("it ahead of its HEAD", x.pair(1, 0), 1);
            Check.due("none", x.order(0), -1);
            Check.due("none", x.arrange(0), -1);
            Check.row("of the latest that told a cost", x, 2, 0, 1);
            Check.were("nothing moved", x, 0, 1, 2);
            Check.due("others tell a cost", x.order(1), 0);
        }
        EssayBones y = OrdersTest.byWords("a b. so a. b.");
        Check.due("a CONCLUSION may be ahead of its HEAD", y.pair(1, 0), 1);
        Check.due("order", y.order(0), 2);
        Check.row("order", y, 1, 0, 2);
        // Two PARTS that are each to be ahead of the other.
        EssayBones z = OrdersTest.byWords("a b. a m. m. b n. n.");
        Check.heads("two PARTS", z, -1, 0, 1, 0, 3);
        Check.due("a PAIR", z.pair(1, 4), 1);
        Check.due("order", z.order(0), 3);
        Check.due("and back", z.pair(3, 2), 2);
        Check.due("none", z.order(0), -1);
        Check.due("none", z.arrange(0), -1);
        Check.due("but within one PART", z.order(1), 1);
    }

    private static EssayBones told() {
        EssayBones x = OrdersTest.byWords("A b. A m n. M. N.\n\nB.");
        x.pair(2, 3);
        x.order(1);
        Check.tape(x, "a. b");
        return x;
    }

    private static void orderLeavesAll() {
        Check.says("Nothing is promised beyond the answers and state changes described above");
        EssayBones x = told();
        Check.due("order", x.order(0), 2);
        Check.were("no SENTENCE moves", x, 0, 1, 2, 3, 4);
        Check.due("order", x.order(1), 2);
        Shown.same("an order ahead of the latest", x, told());
    }

    private static void orderedBothSides() {
        Check.says("Of the latest order() that told a cost, the i-th of its row; NONE.");
        EssayBones x = OrdersTest.star(9);
        for (int i = -1; i <= 10; i++) {
            Check.due("ahead of any", x.ordered(i), -1);
        }
        Check.due("order", x.order(0), 25);
        Check.due("-1", x.ordered(-1), -1);
        Check.due("the first", x.ordered(0), 1);
        Check.due("the last", x.ordered(9), 9);
        Check.due("behind the last", x.ordered(10), -1);
        for (int far : FAR) {
            Check.due("far off", x.ordered(far), -1);
        }
        Check.due("a shorter one", x.order(5), 0);
        Check.due("the first", x.ordered(0), 5);
        for (int i = 1; i <= 10; i++) {
            Check.due("nothing of the longer one", x.ordered(i), -1);
        }
    }

    private static void orderedOfLatestThatTold() {
        Check.says("Of the latest order() that told a cost");
        EssayBones x = OrdersTest.byWords("a b. because a. b.");
        Check.due("order", x.order(0), 2);
        Check.row("told", x, 2, 0, 1);
        Check.due("RANGE told none", x.order(3), -2);
        Check.row("as it was", x, 2, 0, 1);
        Check.due("RANGE told none", x.order(-1), -2);
        Check.row("as it was", x, 2, 0, 1);
        Check.due("a PAIR", x.pair(1, 0), 1);
        Check.due("NONE told none", x.order(0), -1);
        Check.row("as it was", x, 2, 0, 1);
        Check.due("arrange is no order()", x.arrange(1), 0);
        Check.row("as it was", x, 2, 0, 1);
        Check.due("a cost of 0 is a cost", x.order(1), 0);
        Check.row("told", x, 1);
        Check.due("NONE told none", x.order(0), -1);
        Check.row("as it was", x, 1);
        Check.due("NONE told none", x.arrange(0), -1);
        Check.row("as it was", x, 1);
    }

    private static void orderedAsNumberedThen() {
        Check.says("(As SENTENCES were numbered then.)");
        EssayBones x = OrdersTest.star(3);
        Check.due("order", x.order(0), 4);
        Check.row("told", x, 1, 0, 2, 3);
        Check.due("arrange", x.arrange(0), 2);
        Check.were("arranged", x, 1, 0, 2, 3);
        Check.row("as numbered then", x, 1, 0, 2, 3);
        Check.due("move", x.move(3, 0), 4);
        Check.row("as numbered then", x, 1, 0, 2, 3);
        Check.faulty(x, "a", 6, 1);
        Check.row("as numbered then", x, 1, 0, 2, 3);
        Check.essay(x, "a.", 1);
        Check.row("as numbered then", x, 1, 0, 2, 3);
        Check.due("weights", x.weight(0, 50), 0);
        Check.row("as numbered then", x, 1, 0, 2, 3);
        // They are numbered by place, not by what they were in the text.
        EssayBones y = Check.essay(new EssayBones(), "a. a. a.", 3);
        Check.due("move", y.move(2, 0), 3);
        Check.were("moved", y, 2, 0, 1);
        Check.due("order", y.order(0), 1);
        Check.row("by place", y, 0, 1);
    }

    private static void standsBothSides() {
        Check.says("What it costs as it stands: the sum of how far h is from each that hangs on it; RANGE.");
        EssayBones x = new EssayBones();
        Check.due("no essay", x.stands(0), -2);
        Check.essay(x, "a. a.", 2);
        Check.due("-1", x.stands(-1), -2);
        Check.due("the first", x.stands(0), 1);
        Check.due("the last", x.stands(1), 0);
        Check.due("2", x.stands(2), -2);
        for (int far : FAR) {
            Check.due("far off", x.stands(far), -2);
        }
        Check.essay(x, "a.".repeat(24), 24);
        Check.due("the last of the most", x.stands(23), 0);
        Check.due("none behind", x.stands(24), -2);
    }

    private static void standsAnew() {
        Check.says("What it costs as it stands");
        EssayBones x = Check.essay(new EssayBones(), "a. a. a.", 3);
        Check.due("asked first", x.stands(0), 1);
        Check.due("NEAR", x.weight(0, 0), 2);
        Check.due("by the WEIGHTS as they are", x.stands(0), 3);
        Check.essay(x, "a. a. a. a.", 4);
        Check.due("another essay", x.stands(0), 6);
    }

    private static void standsSums() {
        Check.says("the sum of how far h is from each that hangs on it");
        EssayBones x = OrdersTest.star(23);
        Check.due("23 hang on it", x.stands(0), 23 * 24 / 2);
        Check.due("nothing hangs on it", x.stands(12), 0);
        EssayBones y = OrdersTest.byWords("a. so a m n. m. n o. o.");
        y.weight(2, 50);
        Check.heads("on both sides", y, 1, -1, 1, 1, 3);
        Check.due("on both sides", y.stands(1), 1 + 1 + 2);
        Check.due("not what hangs farther down", y.stands(3), 1);
    }

    private static void arrangeRange() {
        Check.says("NONE as order(); RANGE.");
        EssayBones x = new EssayBones();
        Check.due("no essay", x.arrange(0), -2);
        Check.essay(x, "a. a.", 2);
        Check.due("-1", x.arrange(-1), -2);
        Check.due("the first", x.arrange(0), 0);
        Check.due("the last", x.arrange(1), 0);
        Check.due("2", x.arrange(2), -2);
        for (int far : FAR) {
            Check.due("far off", x.arrange(far), -2);
        }
        Check.essay(x, "a.".repeat(24), 24);
        Check.due("the last of the most", x.arrange(23), 0);
        Check.due("none behind", x.arrange(24), -2);
    }

    private static void arrangeNone() {
        Check.says("NONE as order()");
        EssayBones x = OrdersTest.star(9);
        Check.due("nine hang on it", x.arrange(0), 5);
        EssayBones y = OrdersTest.star(10);
        Check.due("ten hang on it", y.arrange(0), -1);
        Check.were("nothing moved", y, upTo(10));
        EssayBones z = OrdersTest.byWords("a b. but a. b.");
        Check.due("a PAIR", z.pair(1, 0), 1);
        Check.due("none keeps that", z.arrange(0), -1);
        Check.were("nothing moved", z, 0, 1, 2);
    }

    private static void arrangeNothing() {
        Check.says("how many SENTENCES stand elsewhere than before");
        EssayBones x = OrdersTest.byWords("a. a b. b.");
        Check.heads("a chain", x, -1, 0, 1);
        Check.due("as cheap as can be", x.arrange(0), 0);
        Check.due("as cheap as can be", x.arrange(1), 0);
        Check.were("nothing moved", x, 0, 1, 2);
        // As it stands is always the first by number of those that cost the same.
        EssayBones y = OrdersTest.byWords("a. so a b. b.");
        y.weight(2, 50);
        Check.heads("one ahead, one behind", y, 1, -1, 1);
        Check.due("as it stands", y.stands(1), 2);
        Check.due("order", y.order(1), 2);
        Check.row("the same", y, 0, 1, 2);
        Check.due("arrange", y.arrange(1), 0);
    }

    private static void arrangeElsewhere() {
        Check.says("The PART of h is put in its cheapest ORDER: how many SENTENCES stand elsewhere than before");
        EssayBones x = OrdersTest.star(2);
        Check.due("two change places", x.arrange(0), 2);
        Check.were("arranged", x, 1, 0, 2);
        EssayBones y = OrdersTest.byWords("a b. because a m. m. because b.");
        Check.heads("a PART of two", y, -1, 0, 1, 0);
        Check.due("three change places, the head stays", y.arrange(0), 3);
        Check.were("arranged", y, 0, 3, 1, 2);
        Check.due("words go along", y.word(1, 1, 0), 'b');
        Check.due("KINDS go along", y.sentence(3, 2), 0);
        Check.due("KEYS go along", y.shared(2, 3), 1);
        Check.heads("what hangs on what is found anew", y, -1, 0, 0, 2);
        Check.due("as it stands now", y.stands(0), 1 + 2);
    }

    private static void arrangePartAlone() {
        Check.says("The PART of h is put in its cheapest ORDER");
        EssayBones x = OrdersTest.byWords("x a. a b c. b. c. x.");
        Check.heads("a PART inside", x, -1, 0, 1, 1, 0);
        Check.due("arrange", x.arrange(1), 2);
        Check.were("0 and 4 stay", x, 0, 2, 1, 3, 4);
    }

    private static void arrangeKeepsParagraphs() {
        Check.says("(PARAGRAPHS stay with their places.)");
        EssayBones x = OrdersTest.byWords("a b.\n\na.\n\nb.");
        Check.due("arrange", x.arrange(0), 2);
        Check.were("arranged", x, 1, 0, 2);
        for (int i = 0; i < 3; i++) {
            Check.due("PARAGRAPH", x.sentence(i, 3), i);
        }
        Check.due("PARAGRAPHS", x.count(1), 3);
    }

    private static EssayBones chain() {
        EssayBones x = Check.essay(new EssayBones(), "a. a. a. a. a.", 5);
        Check.heads("a chain", x, -1, 0, 1, 2, 3);
        return x;
    }

    private static EssayBones backwards() {
        EssayBones x = Check.withSigns();
        Check.essay(x, "a. a. a. a. so a.", 5);
        Check.heads("backwards", x, 1, 2, 3, 4, -1);
        return x;
    }

    private static void moveBothSides() {
        Check.says("how many SENTENCES stand elsewhere; RANGE.");
        EssayBones x = new EssayBones();
        Check.due("no essay", x.move(0, 0), -2);
        Check.due("no essay", x.move(0, 1), -2);
        x = chain();
        for (int bad : new int[] {-1, 5}) {
            for (int e = -1; e <= 6; e++) {
                Check.due("no SENTENCE", x.move(bad, e), -2);
            }
        }
        Check.due("e -1", x.move(4, -1), -2);
        Check.due("e 6", x.move(4, 6), -2);
        for (int far : FAR) {
            Check.due("far off", x.move(4, far), -2);
            Check.due("far off", x.move(far, 0), -2);
            Check.due("far off", x.move(far, 5), -2);
        }
        Check.were("nothing moved", x, 0, 1, 2, 3, 4);
        Check.due("e 0", x.move(4, 0), 5);
        Check.were("e 0", x, 4, 0, 1, 2, 3);
        x = backwards();
        Check.due("e 5", x.move(0, 5), 5);
        Check.were("e 5", x, 1, 2, 3, 4, 0);
    }

    private static void moveOfItsOwn() {
        Check.says("that isn't of it");
        EssayBones x = chain();
        for (int d = 0; d < 5; d++) {
            for (int e = d; e < 5; e++) {
                Check.due("move(" + d + ", " + e + ")", x.move(d, e), -2);
            }
        }
        Check.were("nothing moved", x, 0, 1, 2, 3, 4);
        EssayBones y = backwards();
        for (int d = 0; d < 5; d++) {
            for (int e = 0; e <= d; e++) {
                Check.due("move(" + d + ", " + e + ")", y.move(d, e), -2);
            }
        }
        Check.were("nothing moved", y, 0, 1, 2, 3, 4);
    }

    private static void moveWhereItStands() {
        Check.says("so that it stands just ahead of SENTENCE e");
        EssayBones x = backwards();
        for (int d = 0; d < 5; d++) {
            Check.due("it stands there", x.move(d, d + 1), 0);
        }
        Check.were("nothing moved", x, 0, 1, 2, 3, 4);
        Check.says("(e as many as there are: at the end)");
        EssayBones y = chain();
        for (int d = 0; d < 5; d++) {
            Check.due("it stands at the end", y.move(d, 5), 0);
        }
        Check.were("nothing moved", y, 0, 1, 2, 3, 4);
        EssayBones z = Check.essay(new EssayBones(), "a.", 1);
        Check.due("one alone", z.move(0, 0), -2);
        Check.due("one alone", z.move(0, 1), 0);
        Check.due("one alone", z.move(0, 2), -2);
        Check.due("one alone", z.move(1, 0), -2);
    }

    private static void moveToTheEnd() {
        Check.says("(e as many as there are: at the end)");
        int[][] want = {{1, 2, 3, 4, 0}, {2, 3, 4, 0, 1}, {3, 4, 0, 1, 2}, {4, 0, 1, 2, 3}};
        for (int d = 0; d < 4; d++) {
            EssayBones x = backwards();
            Check.due("all stand elsewhere", x.move(d, 5), 5);
            Check.were("at the end", x, want[d]);
        }
    }

    private static void moveAhead() {
        Check.says("The PART of d is moved so that it stands just ahead of SENTENCE e");
        int[][] want = {{0, 1, 2, 4, 3}, {0, 1, 4, 2, 3}, {0, 4, 1, 2, 3}, {4, 0, 1, 2, 3}};
        for (int k = 0; k < 4; k++) {
            EssayBones x = chain();
            Check.due("from e on all stand elsewhere", x.move(4, 3 - k), k + 2);
            Check.were("ahead of " + (3 - k), x, want[k]);
        }
        EssayBones y = chain();
        Check.due("a PART of three", y.move(2, 1), 4);
        Check.were("a PART of three", y, 0, 2, 3, 4, 1);
        EssayBones z = backwards();
        Check.due("a PART of two, to behind", z.move(1, 4), 4);
        Check.were("a PART of two, to behind", z, 2, 3, 0, 1, 4);
        EssayBones w = backwards();
        Check.due("one, a step", w.move(0, 2), 2);
        Check.were("one, a step", w, 1, 0, 2, 3, 4);
        EssayBones v = OrdersTest.byWords("a. a b. b.");
        Check.heads("a chain", v, -1, 0, 1);
        Check.due("the last to the front", v.move(2, 0), 3);
        Check.were("the last to the front", v, 2, 0, 1);
        Check.heads("what hangs on what is found anew", v, -1, 2, 0);
        Check.due("as it stands now", v.stands(0), 2);
        Check.due("its PART", v.sentence(2, 6), 2);
    }

    private static void moveMost() {
        Check.says("e as many as there are");
        EssayBones x = Check.essay(new EssayBones(), "a.".repeat(24), 24);
        Check.due("e 24, at the end", x.move(23, 24), 0);
        Check.due("e 25", x.move(23, 25), -2);
        Check.due("of its own", x.move(23, 23), -2);
        Check.due("one step", x.move(23, 22), 2);
        Check.due("it was", x.sentence(22, 7), 23);
        Check.due("all", x.move(23, 0), 24);
        Check.due("it was", x.sentence(0, 7), 22);
        Check.due("it was", x.sentence(23, 7), 23);
    }

    private static void moveKeepsParagraphs() {
        Check.says("(PARAGRAPHS stay with their places.)");
        EssayBones x = Check.essay(new EssayBones(), "a b. a b.\n\na b. a b. a b.", 5);
        int[] paragraphs = {0, 0, 1, 1, 1};
        Check.due("cost", x.cost(1, 2), 6 + 5);
        Check.due("move", x.move(4, 0), 5);
        Check.were("moved", x, 4, 0, 1, 2, 3);
        for (int i = 0; i < 5; i++) {
            Check.due("PARAGRAPH of " + i, x.sentence(i, 3), paragraphs[i]);
        }
        Check.due("PARAGRAPHS", x.count(1), 2);
        Check.due("by place", x.cost(1, 2), 6 + 5);
        Check.due("by place", x.cost(0, 1), 6);
    }

    private static void refusedLeaveAll() {
        Check.says("RANGE");
        EssayBones x = told();
        Check.due("move", x.move(1, 2), -2);
        Check.due("move", x.move(1, 6), -2);
        Check.due("move", x.move(5, 0), -2);
        Check.due("move", x.move(0, -1), -2);
        Check.due("arrange", x.arrange(5), -2);
        Check.due("arrange", x.arrange(-1), -2);
        Check.due("order", x.order(5), -2);
        Check.due("order", x.order(-1), -2);
        Check.due("stands", x.stands(5), -2);
        Shown.same("refused moves", x, told());
    }
}
