/** Promises 1 (a new object), 2 (feed), 3 (end) and 24 (count). */
public final class TapeTest {
    private static final int BLANKS = 0x20202020;

    public static void main(String[] args) {
        newObject();
        feed();
        feedBytes();
        feedUpToFull();
        end();
        count();
        Check.close();
    }

    private static void newObject() {
        EssayBones x = new EssayBones();
        int[] want = {0, 0, 0, 0, 0, 0, 0, -1};
        for (int what = 0; what < want.length; what++) {
            Check.due("new: count " + what, x.count(what), want[what]);
        }
        Check.due("new: fault(0)", x.fault(0), 0);
        Check.due("new: fault(1)", x.fault(1), -1);
        Check.due("new: tree", x.tree(), -1);
        Check.due("new: next", x.next(), -1);
        Check.due("new: sentence", x.sentence(0, 7), -2);
        Check.due("new: word", x.word(0, 0, 0), -1);
        Check.due("new: shared", x.shared(0, 0), -2);
        Check.due("new: cost", x.cost(0, 1), -2);
        Check.due("new: finding", x.finding(0), -2);
        Check.due("new: marks", x.marks(1, 2, 3, 4, 5), 0);
        Check.due("new: pair", x.pair(0, 1), -2);
        Check.due("new: order", x.order(0), -2);
        Check.due("new: ordered", x.ordered(0), -1);
        Check.due("new: stands", x.stands(0), -2);
        Check.due("new: arrange", x.arrange(0), -2);
        Check.due("new: move", x.move(0, 0), -2);
        Check.due("NONE", EssayBones.NONE, -1);
        Check.due("RANGE", EssayBones.RANGE, -2);
        Check.due("FULL", EssayBones.FULL, -3);
    }

    private static void feed() {
        EssayBones x = new EssayBones();
        Check.due("feed", x.feed(0, -1, 7, 8, 9), 20);
        Check.due("feed again", x.feed(0, -1, 7, 8, 9), 40);
        Check.due("bytes", x.count(6), 40);
        Check.due("end", x.end(13), 13);
        Check.due("feed behind 13", x.feed(0, 0, 0, 0, 0), 33);
    }

    /** The highest byte of each int comes first, and each of the five has its place. */
    private static void feedBytes() {
        EssayBones x = new EssayBones();
        x.feed(0x61624344, 0x65666768, 0x696a6b6c, 0x2e206d6e, 0x6f70712e);
        Check.due("read", x.read(), 2);
        String first = "abcdefghijkl";
        for (int j = 0; j < first.length(); j++) {
            Check.due("byte " + j, x.word(0, 0, j), first.charAt(j));
        }
        String second = "mnopq";
        for (int j = 0; j < second.length(); j++) {
            Check.due("byte " + j + " of the second", x.word(1, 0, j), second.charAt(j));
        }
        Check.due("tape is empty", x.count(6), 0);
        x.feed(0x61ff2e20, BLANKS, BLANKS, BLANKS, BLANKS);
        Check.due("a byte above 127", x.read(), -1);
        Check.due("is no sign of an essay", x.fault(0), 1);
        Check.due("at its place", x.fault(1), 1);
    }

    private static void feedUpToFull() {
        EssayBones x = new EssayBones();
        for (int k = 1; k <= 150; k++) {
            Check.due("feed " + k, x.feed(BLANKS, BLANKS, BLANKS, BLANKS, BLANKS), 20 * k);
        }
        Check.due("feed beyond 3000", x.feed(0, 0, 0, 0, 0), -3);
        Check.due("nothing came", x.count(6), 3000);
        Check.due("end", x.end(2981), 2981);
        Check.due("one byte too many", x.feed(0, 0, 0, 0, 0), -3);
        Check.due("nothing came", x.count(6), 2981);
        Check.due("end", x.end(2980), 2980);
        Check.due("just room", x.feed(0, 0, 0, 0, 0), 3000);
    }

    private static void end() {
        EssayBones x = new EssayBones();
        Check.due("end(0) of none", x.end(0), 0);
        Check.due("end(1) of none", x.end(1), -1);
        Check.due("end(-1)", x.end(-1), -1);
        x.feed(BLANKS, BLANKS, BLANKS, BLANKS, BLANKS);
        Check.due("end(21) of 20", x.end(21), -1);
        Check.due("end(least)", x.end(Integer.MIN_VALUE), -1);
        Check.due("end(most)", x.end(Integer.MAX_VALUE), -1);
        Check.due("still 20", x.count(6), 20);
        Check.due("end(20) of 20", x.end(20), 20);
        Check.due("end(7)", x.end(7), 7);
        Check.due("7 bytes", x.count(6), 7);
        Check.due("end(8) of 7", x.end(8), -1);
        // What is cut off does not come back.
        Check.tape(x, "abcdef.");
        Check.due("end(3)", x.end(3), 3);
        x.feed(0x2e202020, BLANKS, BLANKS, BLANKS, BLANKS);
        Check.due("read", x.read(), 1);
        Check.due("third byte", x.word(0, 0, 2), 'c');
        Check.due("no fourth one", x.word(0, 0, 3), -1);
    }

    private static void count() {
        EssayBones x = Check.withSigns();
        Check.stop(x, "the");
        Check.stop(x, "a");
        Check.ending(x, "s");
        Check.read(x, "We go.\n\nWe go.\n\nWe go. We go. So we go.");
        Check.due("pair", x.pair(0, 1), 1);
        Check.due("pair", x.pair(0, 2), 2);
        Check.tape(x, "seven b");
        int[] want = {5, 3, 2, 4, 1, 2, 7, 4};
        for (int what = 0; what < want.length; what++) {
            Check.due("count " + what, x.count(what), want[what]);
        }
        int[] weights = {2, 3, 10, 5};
        for (int i = 0; i < 4; i++) {
            Check.due("weight " + i + " at first", x.count(10 + i), weights[i]);
            Check.due("set weight", x.weight(i, 40 + i), weights[i]);
        }
        for (int i = 0; i < 4; i++) {
            Check.due("weight " + i, x.count(10 + i), 40 + i);
        }
        for (int what : new int[] {-1, 8, 9, 14, Integer.MIN_VALUE, Integer.MAX_VALUE}) {
            Check.due("count " + what, x.count(what), -1);
        }
        Check.due("move", x.move(0, 4), 4);
        Check.due("paragraphs after a move", x.count(1), 3);
    }
}
