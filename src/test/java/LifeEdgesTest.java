/** "An object is used for at most 512 calls": the last of them is answered as the first one. */
public final class LifeEdgesTest {
    private static final int CALLS = 512;
    private static final int BLANKS = 0x20202020;

    public static void main(String[] args) {
        Check.says("An object is used for at most 512 calls after it has been made");
        feeds();
        ends();
        stops();
        reads();
        readsOfMost();
        faults();
        treesAnew();
        ordersOfNine();
        arranges();
        moves();
        pairs();
        mixed();
        manyObjects();
        Check.close();
    }

    private static void feeds() {
        EssayBones x = new EssayBones();
        for (int call = 1; call <= CALLS; call++) {
            Check.due("feed, call " + call, x.feed(BLANKS, BLANKS, BLANKS, BLANKS, BLANKS), call <= 150 ? 20 * call : -3);
        }
    }

    private static void ends() {
        EssayBones x = new EssayBones();
        for (int call = 1; call <= CALLS; call += 2) {
            int had = x.feed(BLANKS, BLANKS, BLANKS, BLANKS, BLANKS);
            Check.due("end, call " + (call + 1), x.end(had - 19), (call + 1) / 2);
        }
        EssayBones y = new EssayBones();
        for (int call = 1; call <= CALLS; call++) {
            Check.due("end, call " + call, y.end(call % 3 - 1), call % 3 == 1 ? 0 : -1);
        }
    }

    /** A word that comes and goes, 170 times. */
    private static void stops() {
        EssayBones x = new EssayBones();
        int calls = 0;
        for (int round = 1; calls + 3 <= CALLS; round++) {
            x.feed(0x74686520, BLANKS, BLANKS, BLANKS, BLANKS);
            x.end(3);
            Check.due("stop, round " + round, x.stop(), round % 2);
            calls += 3;
        }
        Check.due("calls", calls, 510);
        Check.due("the last but one", x.count(2), 0);
        Check.due("the last", x.stop(), -2);
    }

    private static void reads() {
        EssayBones x = new EssayBones();
        for (int round = 1; round <= 170; round++) {
            Check.due("feed", x.feed(0x612e622e, 0x632e642e, 0x652e662e, BLANKS, BLANKS), 20);
            Check.due("read", x.read(), 6);
            Check.due("tree", x.tree(), 60);
        }
        Check.due("the last but one", x.count(0), 6);
        Check.due("the last", x.word(5, 0, 0), 'f');
    }

    /** As much as THE TAPE holds, three times: 453 calls. */
    private static void readsOfMost() {
        EssayBones x = new EssayBones();
        for (int round = 0; round < 3; round++) {
            for (int k = 1; k <= 150; k++) {
                // 24 SENTENCES of 39 words are 1896 bytes, and blanks behind them.
                int[] f = new int[5];
                for (int p = 0; p < 5; p++) {
                    f[p] = fourOf(20 * (k - 1) + 4 * p);
                }
                Check.due("feed", x.feed(f[0], f[1], f[2], f[3], f[4]), 20 * k);
            }
            Check.due("read", x.read(), 24);
        }
        for (int s = 0; s < 24; s++) {
            Check.due("words", x.sentence(s, 0), 39);
            Check.due("PART", x.sentence(s, 6), 24 - s);
        }
        Check.due("tree", x.tree(), 0);
    }

    private static int fourOf(int from) {
        int four = 0;
        for (int p = from; p < from + 4; p++) {
            int inside = p % 79;
            int b = p >= 24 * 79 ? ' ' : inside == 78 ? '.' : inside % 2 == 1 ? ' ' : 'a' + inside / 2 % 26;
            four = four << 8 | b;
        }
        return four;
    }

    private static void faults() {
        EssayBones x = new EssayBones();
        Check.due("feed", x.feed(0x612e2020, BLANKS, BLANKS, BLANKS, BLANKS), 20);
        Check.due("read", x.read(), 1);
        for (int call = 3; call + 3 < CALLS; call += 3) {
            Check.due("feed", x.feed(0x612e622e, 0x2a202020, BLANKS, BLANKS, BLANKS), 20);
            Check.due("read", x.read(), -1);
            Check.due("place", x.fault(1), 4);
        }
        Check.due("the essay is there still", x.count(0), 1);
        EssayBones y = new EssayBones();
        for (int call = 1; call <= CALLS; call++) {
            Check.due("read of nothing", y.read(), -1);
        }
    }

    private static void treesAnew() {
        EssayBones x = Check.essay(new EssayBones(), "a.".repeat(24), 24);
        // Seven calls are behind it.
        for (int round = 1; round <= 250; round++) {
            int near = round % 51;
            x.weight(0, near);
            Check.due("next, round " + round, x.next(), 23 * 9);
        }
    }

    private static void ordersOfNine() {
        EssayBones x = OrdersTest.star(9);
        for (int round = 1; round <= 220; round++) {
            Check.due("order, round " + round, x.order(0), 25);
            Check.due("ordered, round " + round, x.ordered(round % 11), round % 11 < 4 ? round % 11 + 1
                    : round % 11 == 4 ? 0 : round % 11 == 10 ? -1 : round % 11);
        }
    }

    private static void arranges() {
        EssayBones x = OrdersTest.star(9);
        Check.due("arrange", x.arrange(0), 5);
        for (int round = 1; round <= 400; round++) {
            Check.isTrue("arrange, round " + round, x.arrange(round % 10) >= -1);
        }
        int was = 0;
        for (int i = 0; i < 10; i++) {
            was |= 1 << x.sentence(i, 7);
        }
        Check.due("each is there once", was, (1 << 10) - 1);
    }

    private static void moves() {
        EssayBones x = Check.essay(new EssayBones(), "a. a. a.", 3);
        for (int round = 1; round <= 480; round++) {
            Check.due("move, round " + round, x.move(2, 0), 3);
        }
        Check.were("480 is a threefold", x, 0, 1, 2);
        Check.due("move", x.move(2, 0), 3);
        Check.were("and one more", x, 2, 0, 1);
    }

    private static void pairs() {
        EssayBones x = Check.essay(new EssayBones(), "a.".repeat(24), 24);
        for (int round = 1; round <= 490; round++) {
            int want = Math.min(round, 20);
            Check.due("pair, round " + round, x.pair((round - 1) % 20, 20 + (round - 1) % 4), want);
        }
        Check.due("the other way round", x.pair(23, 3), -2);
        Check.due("PAIRS", x.count(5), 20);
    }

    private static void mixed() {
        EssayBones x = Check.withSigns();
        int left = CALLS - 4 * 4 - 6;
        Check.essay(x, "We like rain. Because rain helps corn.", 2);
        for (int call = 1; call < left; call++) {
            switch (call % 4) {
                case 0: Check.due("tree", x.tree(), 9); break;
                case 1: Check.due("finding", x.finding(0), 0); break;
                case 2: Check.due("cost", x.cost(1, 0), 9); break;
                default: Check.due("move", x.move(1, 2), 0);
            }
        }
        Check.due("the 512th", x.count(7), 0);
    }

    /** Objects know nothing of one another. */
    private static void manyObjects() {
        EssayBones[] all = new EssayBones[100];
        for (int k = 0; k < all.length; k++) {
            all[k] = Check.essay(new EssayBones(), "a.".repeat(1 + k % 24), 1 + k % 24);
        }
        for (int k = 0; k < all.length; k++) {
            Check.due("its own", all[k].count(0), 1 + k % 24);
            Check.due("its own", all[k].tree(), 9 * (k % 24));
        }
    }
}
