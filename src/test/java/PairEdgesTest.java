/** The boundaries of promise 18 (pair) and of what PAIRS do to ORDERS, sentence by sentence. */
public final class PairEdgesTest {
    private static final int[] FAR = {Integer.MIN_VALUE, Integer.MIN_VALUE + 1, -32, -2, 32, 1 << 16,
        Integer.MAX_VALUE - 1, Integer.MAX_VALUE};

    public static void main(String[] args) {
        noSuch();
        theSame();
        otherWayRound();
        throughOthers();
        throughAll();
        twentyPairs();
        refusedWhenFull();
        thereAlready();
        thereAlreadyWhenFull();
        refusedLeaveAll();
        goAlongWithMoves();
        goAlongWithArrange();
        notForTheNextEssay();
        inTwoOfThese();
        notInTwoOfThese();
        notThroughOutside();
        refusedBindNothing();
        Check.close();
    }

    private static void noSuch() {
        Check.says("RANGE: no such");
        EssayBones x = new EssayBones();
        Check.due("no essay", x.pair(0, 1), -2);
        Check.essay(x, "a. b. c.", 3);
        for (int i = 0; i < 3; i++) {
            Check.due("-1", x.pair(-1, i), -2);
            Check.due("-1", x.pair(i, -1), -2);
            Check.due("3", x.pair(3, i), -2);
            Check.due("3", x.pair(i, 3), -2);
            for (int far : FAR) {
                Check.due("far off", x.pair(far, i), -2);
                Check.due("far off", x.pair(i, far), -2);
            }
        }
        Check.due("both", x.pair(-1, 3), -2);
        Check.due("no PAIRS", x.count(5), 0);
        Check.due("the first and the last", x.pair(0, 2), 1);
        Check.essay(x, "a.".repeat(24), 24);
        Check.due("the 25th", x.pair(23, 24), -2);
        Check.due("the 25th", x.pair(24, 0), -2);
        Check.due("the last of the most", x.pair(23, 22), 1);
        Check.essay(x, "a.", 1);
        Check.due("gone with the essay ahead", x.pair(0, 1), -2);
    }

    private static void theSame() {
        Check.says("RANGE: no such, the same");
        EssayBones x = Check.essay(new EssayBones(), "a.".repeat(24), 24);
        for (int i = 0; i < 24; i++) {
            Check.due("the same", x.pair(i, i), -2);
        }
        Check.due("no PAIRS", x.count(5), 0);
        Check.essay(x, "a.", 1);
        Check.due("one alone", x.pair(0, 0), -2);
    }

    private static void otherWayRound() {
        Check.says("b must be ahead of a");
        EssayBones x = Check.essay(new EssayBones(), "a. b. c.", 3);
        Check.due("a PAIR", x.pair(0, 1), 1);
        Check.due("the other way round", x.pair(1, 0), -2);
        Check.due("one that stands the other way", x.pair(2, 1), 2);
        Check.due("the other way round", x.pair(1, 2), -2);
        Check.due("PAIRS", x.count(5), 2);
        Check.due("free ones", x.pair(2, 0), 3);
        Check.due("not any more", x.pair(0, 2), -2);
    }

    private static void throughOthers() {
        Check.says("(also through others)");
        EssayBones x = Check.essay(new EssayBones(), "a. b. c. d. e.", 5);
        Check.due("a PAIR", x.pair(0, 1), 1);
        Check.due("another that begins where it begins", x.pair(0, 2), 2);
        Check.due("another that ends where it ends", x.pair(3, 1), 3);
        // None of these is a way from the first to the second.
        Check.due("side by side", x.pair(2, 1), 4);
        Check.due("through one other", x.pair(1, 0), -2);
        Check.due("side by side", x.pair(2, 3), 5);
        Check.due("through two others", x.pair(1, 0), -2);
        Check.due("through one other", x.pair(3, 0), -2);
        Check.due("what is so anyway", x.pair(0, 3), 6);
        Check.due("one that is in none", x.pair(1, 4), 7);
        Check.due("through three others", x.pair(4, 0), -2);
        Check.due("PAIRS", x.count(5), 7);
    }

    private static void throughAll() {
        Check.says("(also through others)");
        int[][] rows = {{0, 1, 19}, {19, -1, 0}};
        for (int[] row : rows) {
            EssayBones x = Check.essay(new EssayBones(), "a.".repeat(24), 24);
            int many = 0;
            for (int k = row[0]; k != row[2] + row[1]; k += row[1]) {
                many++;
                Check.due("PAIR " + many, x.pair(k, k + 1), many);
            }
            for (int k = 1; k <= 20; k++) {
                Check.due("through " + (k - 1) + " others", x.pair(k, 0), -2);
                Check.due("through " + (20 - k) + " others", x.pair(20, 20 - k), -2);
            }
        }
    }

    private static EssayBones twenty() {
        EssayBones x = Check.essay(new EssayBones(), "a.".repeat(24), 24);
        for (int k = 1; k <= 20; k++) {
            Check.due("PAIR " + k, x.pair(0, k), k);
            Check.due("PAIRS", x.count(5), k);
        }
        return x;
    }

    private static void twentyPairs() {
        Check.says("FULL: 20 there are.");
        EssayBones x = twenty();
        Check.due("the 21st", x.pair(0, 21), -3);
        Check.due("another", x.pair(1, 2), -3);
        Check.due("another", x.pair(23, 22), -3);
        Check.due("PAIRS", x.count(5), 20);
        Check.due("the refused one is none", x.pair(21, 0), -3);
        Check.essay(x, "a. b.", 2);
        Check.due("a new essay has room", x.pair(1, 0), 1);
    }

    private static void refusedWhenFull() {
        Check.says("RANGE: no such, the same, b must be ahead of a");
        EssayBones x = twenty();
        Check.due("no such", x.pair(0, 24), -2);
        Check.due("no such", x.pair(-1, 0), -2);
        Check.due("the same", x.pair(5, 5), -2);
        Check.due("the other way round", x.pair(20, 0), -2);
        Check.due("PAIRS", x.count(5), 20);
    }

    private static void thereAlready() {
        Check.says("(One that is there already changes nothing.)");
        EssayBones x = Check.essay(new EssayBones(), "a. b. c.", 3);
        Check.due("a PAIR", x.pair(0, 1), 1);
        Check.due("there already", x.pair(0, 1), 1);
        Check.due("another", x.pair(1, 2), 2);
        Check.due("there already", x.pair(0, 1), 2);
        Check.due("there already", x.pair(1, 2), 2);
        Check.due("that it must be isn't that it is there", x.pair(0, 2), 3);
        Check.due("PAIRS", x.count(5), 3);
    }

    private static void thereAlreadyWhenFull() {
        Check.says("(One that is there already changes nothing.)");
        EssayBones x = twenty();
        for (int k = 1; k <= 20; k++) {
            Check.due("there already", x.pair(0, k), 20);
        }
        Check.due("PAIRS", x.count(5), 20);
    }

    private static EssayBones bound() {
        EssayBones x = OrdersTest.byWords("A b. A m n. M. N. B.");
        x.pair(0, 4);
        x.pair(2, 3);
        x.order(0);
        return x;
    }

    private static void refusedLeaveAll() {
        Check.says("how many PAIRS. RANGE");
        EssayBones x = bound();
        Check.due("no such", x.pair(5, 0), -2);
        Check.due("the same", x.pair(1, 1), -2);
        Check.due("the other way round", x.pair(4, 0), -2);
        Check.due("there already", x.pair(2, 3), 2);
        Shown.same("refused PAIRS", x, bound());
    }

    private static void goAlongWithMoves() {
        Check.says("(those that they are now; they go along when SENTENCES move)");
        EssayBones x = Check.essay(new EssayBones(), "a. a. a. a.", 4);
        Check.due("a PAIR", x.pair(0, 3), 1);
        Check.due("move", x.move(3, 0), 4);
        Check.were("moved", x, 3, 0, 1, 2);
        Check.due("the PAIR", x.count(5), 1);
        Check.due("there already", x.pair(1, 0), 1);
        Check.due("the other way round", x.pair(0, 1), -2);
        Check.due("those that they are now", x.pair(0, 3), 2);
        Check.due("move", x.move(3, 0), 4);
        Check.were("moved", x, 2, 3, 0, 1);
        Check.due("there already", x.pair(2, 1), 2);
        Check.due("there already", x.pair(1, 0), 2);
        Check.due("through others", x.pair(0, 2), -2);
    }

    private static void goAlongWithArrange() {
        Check.says("(those that they are now; they go along when SENTENCES move)");
        EssayBones x = OrdersTest.star(3);
        Check.due("a PAIR", x.pair(3, 1), 1);
        Check.due("order", x.order(0), 4);
        Check.row("3 ahead of 1", x, 2, 0, 3, 1);
        Check.due("arrange", x.arrange(0), 4);
        Check.were("arranged", x, 2, 0, 3, 1);
        Check.due("there already", x.pair(2, 3), 1);
        Check.due("the other way round", x.pair(3, 2), -2);
        Check.due("those that stand there now", x.pair(3, 1), 2);
    }

    private static void notForTheNextEssay() {
        Check.says("there are no PAIRS then");
        EssayBones x = OrdersTest.star(3);
        Check.due("a PAIR", x.pair(0, 1), 1);
        Check.due("a PAIR", x.pair(0, 2), 2);
        Check.due("a PAIR", x.pair(0, 3), 3);
        Check.due("the head first", x.order(0), 6);
        Check.essay(x, "k1 k2 k3. k1. k2. k3.", 4);
        Check.due("free", x.order(0), 4);
        Check.due("the other way round", x.pair(1, 0), 1);
    }

    private static void inTwoOfThese() {
        Check.says("PAIRS that are told keep theirs (a ahead of b, when a and b are in two of these)");
        // 0 with PARTS 1 2 3 and 4 5.
        String text = "A b. A m n. M. N. B o. O.";
        int[][] bound = {{3, 4}, {1, 4}, {2, 5}, {3, 5}};
        for (int[] p : bound) {
            EssayBones x = OrdersTest.byWords(text);
            Check.heads("two PARTS", x, -1, 0, 1, 1, 0, 4);
            // 4 5 0 1 2 3 costs 2 and 1; 0 4 5 1 2 3 costs 1 and 3; 1 2 3 0 4 5 costs 3 and 1.
            Check.due("free", x.order(0), 3);
            Check.row("free", x, 4, 0, 1);
            Check.due("a PAIR", x.pair(p[0], p[1]), 1);
            Check.due("bound", x.order(0), 4);
            Check.row("bound", x, 1, 0, 4);
        }
        for (int s = 4; s <= 5; s++) {
            EssayBones x = OrdersTest.byWords(text);
            Check.due("the head is one of these", x.pair(0, s), 1);
            Check.due("bound", x.order(0), 4);
            Check.row("bound", x, 0, 4, 1);
            EssayBones y = OrdersTest.byWords(text);
            Check.due("the head behind it, as it is anyway", y.pair(s, 0), 1);
            Check.due("bound", y.order(0), 3);
            Check.row("bound", y, 4, 0, 1);
        }
    }

    private static void notInTwoOfThese() {
        Check.says("when a and b are in two of these");
        EssayBones x = OrdersTest.byWords("A b. A m n. M. N. B.");
        Check.due("free", x.order(0), 2);
        Check.due("within one PART", x.pair(3, 2), 1);
        Check.due("within one PART", x.pair(2, 1), 2);
        Check.due("bound by nothing", x.order(0), 2);
        Check.row("bound by nothing", x, 4, 0, 1);
        EssayBones y = OrdersTest.byWords("A b. A m n. M. N. B.");
        Check.due("of 1, as they are free", y.order(1), 2);
        Check.row("free", y, 2, 1, 3);
        Check.due("one outside", y.pair(0, 1), 1);
        Check.due("one outside", y.pair(1, 4), 2);
        Check.due("both outside", y.pair(4, 0), -2);
        Check.due("both outside", y.pair(0, 4), 3);
        Check.due("bound by nothing", y.order(1), 2);
        Check.row("bound by nothing", y, 2, 1, 3);
    }

    private static void notThroughOutside() {
        Check.says("a ahead of b, when a and b are in two of these");
        EssayBones x = OrdersTest.byWords("A b. A m n. M. N. B.");
        Check.due("3 ahead of 4", x.pair(3, 4), 1);
        Check.due("4 ahead of 2", x.pair(4, 2), 2);
        Check.due("4 is in none of these", x.order(1), 2);
        Check.row("4 is in none of these", x, 2, 1, 3);
        Check.due("3 ahead of 2", x.pair(3, 2), 3);
        Check.due("bound", x.order(1), 2);
        Check.row("bound", x, 3, 1, 2);
        Check.due("a PART ahead of one, and behind it", x.order(0), -1);
    }

    private static void refusedBindNothing() {
        Check.says("FULL: 20 there are.");
        // Nine hang on 0, and ten more on the last of these.
        StringBuilder text = new StringBuilder("k1 k2 k3 k4 k5 k6 k7 k8 k9.");
        for (int k = 1; k <= 9; k++) {
            text.append('k').append(k).append(k == 9 ? " m." : ".");
        }
        EssayBones x = OrdersTest.byWords(text + "m.".repeat(11));
        Check.due("nine", x.sentence(0, 5), 9);
        Check.due("eleven", x.sentence(9, 5), 11);
        Check.due("more than nine hang on it", x.order(9), -1);
        int many = 0;
        for (int a = 10; a < 15; a++) {
            for (int b = 15; b < 19; b++) {
                many++;
                Check.due("PAIR " + many, x.pair(a, b), many);
            }
        }
        Check.due("the 21st", x.pair(0, 1), -3);
        // 9 has a large PART, so it stands at an end.
        int free = x.order(0);
        Check.row("1 stands ahead of 0", x, 1, 2, 3, 4, 0, 5, 6, 7, 8, 9);
        Check.due("four ahead, five behind", free, 10 + 15);
    }
}
