/** The boundaries of THE TAPE and of promises 1 (a new object), 2 (feed) and 3 (end), sentence by sentence. */
public final class TapeEdgesTest {
    private static final int BLANKS = 0x20202020;
    private static final int AAAA = 0x61616161;

    public static void main(String[] args) {
        newObject();
        atMost3000();
        refusedFeedLeavesBytes();
        all3000AreRead();
        highestFirst();
        endBothSides();
        endOfFullTape();
        refusedEndLeavesBytes();
        cutBytesAreGone();
        readingEmpties();
        refusedReadingEmpties();
        fullReadingEmpties();
        othersLeaveIt();
        Check.close();
    }

    private static int blanks(EssayBones x) {
        return x.feed(BLANKS, BLANKS, BLANKS, BLANKS, BLANKS);
    }

    private static EssayBones filled(int bytes) {
        EssayBones x = new EssayBones();
        for (int size = 0; size < bytes; size += 20) {
            blanks(x);
        }
        Check.due("end", x.end(bytes), bytes);
        return x;
    }

    private static void newObject() {
        Check.says("No essay, no STOPS, SIGNS, ENDINGS, PAIRS.");
        EssayBones x = new EssayBones();
        for (int what = 0; what < 7; what++) {
            Check.due("count " + what, x.count(what), 0);
        }
        Check.due("the ROOT", x.count(7), -1);
        int[] weights = {2, 3, 10, 5};
        for (int i = 0; i < 4; i++) {
            Check.due("WEIGHT " + i, x.count(10 + i), weights[i]);
        }
        Check.due("tree", x.tree(), -1);
        Check.due("next", x.next(), -1);
        Check.due("marks", x.marks(100, 100, 100, 100, 100), 0);
        Check.due("fault", x.fault(0), 0);
        Check.due("its place", x.fault(1), -1);
        Check.due("ordered", x.ordered(0), -1);
        for (int i = -1; i < 2; i++) {
            Check.due("sentence", x.sentence(i, 0), -2);
            Check.due("word", x.word(i, 0, 0), -1);
            Check.due("shared", x.shared(i, 0), -2);
            Check.due("cost", x.cost(i, 0), -2);
            Check.due("finding", x.finding(i), -2);
            Check.due("pair", x.pair(i, 0), -2);
            Check.due("order", x.order(i), -2);
            Check.due("stands", x.stands(i), -2);
            Check.due("arrange", x.arrange(i), -2);
            Check.due("move", x.move(i, 0), -2);
            Check.due("move to the end", x.move(0, i), -2);
        }
        Check.essay(x, "Because the dogs.", 1);
        Check.due("all are KEYS", x.sentence(0, 1), 3);
        Check.due("a CLAIM", x.sentence(0, 2), 0);
        EssayBones y = new EssayBones();
        Check.due("another object knows nothing of it", y.count(0), 0);
    }

    private static void atMost3000() {
        Check.says("FULL when there would be more than 3000.");
        EssayBones x = new EssayBones();
        Check.due("the first feed", blanks(x), 20);
        for (int k = 2; k <= 149; k++) {
            Check.due("feed " + k, blanks(x), 20 * k);
        }
        Check.due("the 150th feed", blanks(x), 3000);
        Check.due("the 151st feed", blanks(x), -3);
        Check.due("and once more", blanks(x), -3);
        Check.due("bytes", x.count(6), 3000);
        for (int size = 2981; size <= 3000; size++) {
            EssayBones y = filled(size);
            Check.due("no room behind " + size, blanks(y), -3);
            Check.due("bytes", y.count(6), size);
        }
        for (int size = 2961; size <= 2980; size++) {
            EssayBones y = filled(size);
            Check.due("room behind " + size, blanks(y), size + 20);
            Check.due("bytes", y.count(6), size + 20);
            Check.due("but not once more", blanks(y), -3);
        }
    }

    private static void refusedFeedLeavesBytes() {
        Check.says("Twenty bytes come behind THE TAPE");
        EssayBones x = filled(2978);
        Check.due("end", x.end(2960), 2960);
        Check.due("a sentence at the end", x.feed(BLANKS, BLANKS, BLANKS, BLANKS, 0x202e6162), 2980);
        Check.due("end", x.end(2978), 2978);
        Check.due("room for twenty", x.feed(0x63642e20, BLANKS, BLANKS, BLANKS, BLANKS), 2998);
        Check.due("no room", x.feed(0, 0, 0, 0, 0), -3);
        Check.due("no part of it came", x.count(6), 2998);
        Check.due("read", x.read(), -1);
        Check.due("what was there is seen first", x.fault(0), 5);
        Check.due("at its place", x.fault(1), 2977);
        EssayBones y = filled(2980);
        Check.due("just room", y.feed(AAAA, 0x2e202020, BLANKS, BLANKS, BLANKS), 3000);
        Check.due("no room", y.feed(0, 0, 0, 0, 0), -3);
        Check.due("read", y.read(), 1);
        Check.due("a word of 4", y.word(0, 0, 3), 'a');
        Check.due("the tape is empty again", blanks(y), 20);
    }

    private static void all3000AreRead() {
        Check.says("THE TAPE has at most 3000 bytes");
        EssayBones x = filled(2980);
        Check.due("the last byte ends it", x.feed(BLANKS, BLANKS, BLANKS, BLANKS, 0x2061622e), 3000);
        Check.due("read", x.read(), 1);
        Check.due("its second byte", x.word(0, 0, 1), 'b');
        EssayBones y = filled(2980);
        Check.due("the last byte is none", y.feed(AAAA, BLANKS, BLANKS, BLANKS, 0x20202e2a), 3000);
        Check.due("read", y.read(), -1);
        Check.due("its kind", y.fault(0), 1);
        Check.due("its place", y.fault(1), 2999);
        EssayBones z = filled(3000);
        Check.due("read", z.read(), -1);
        Check.due("its kind", z.fault(0), 6);
        Check.due("at the text's length", z.fault(1), 3000);
        EssayBones w = filled(3000);
        Check.due("no word", w.stop(), -2);
    }

    private static void highestFirst() {
        Check.says("the highest of each int first");
        EssayBones x = new EssayBones();
        x.feed(0x61626364, 0x65666768, 0x696a6b6c, 0x6d6e6f70, 0x2e71722e);
        Check.due("read", x.read(), 2);
        for (int j = 0; j < 16; j++) {
            Check.due("byte " + j, x.word(0, 0, j), 'a' + j);
        }
        Check.due("byte 17", x.word(1, 0, 0), 'q');
        Check.due("byte 18", x.word(1, 0, 1), 'r');
        // Each of twenty places, with the lowest and the highest byte, and those with the upper bit.
        for (int place = 0; place < 20; place++) {
            for (int bad : new int[] {0, 127, 128, 255}) {
                EssayBones y = new EssayBones();
                int[] f = {BLANKS, BLANKS, BLANKS, BLANKS, BLANKS};
                int shift = 24 - 8 * (place % 4);
                f[place / 4] = f[place / 4] & ~(255 << shift) | bad << shift;
                Check.due("feed", y.feed(f[0], f[1], f[2], f[3], f[4]), 20);
                Check.due("read", y.read(), -1);
                Check.due("byte " + bad, y.fault(0), 1);
                Check.due("place of byte " + bad, y.fault(1), place);
            }
        }
    }

    private static void endBothSides() {
        Check.says("n; NONE when it has not so many, or n is below 0.");
        EssayBones x = new EssayBones();
        Check.due("0 of none", x.end(0), 0);
        Check.due("1 of none", x.end(1), -1);
        Check.due("-1 of none", x.end(-1), -1);
        blanks(x);
        Check.due("20 of 20", x.end(20), 20);
        Check.due("21 of 20", x.end(21), -1);
        Check.due("-1 of 20", x.end(-1), -1);
        Check.due("still 20", x.count(6), 20);
        Check.due("19 of 20", x.end(19), 19);
        Check.due("20 of 19", x.end(20), -1);
        Check.due("still 19", x.count(6), 19);
        Check.due("1 of 19", x.end(1), 1);
        Check.due("2 of 1", x.end(2), -1);
        Check.due("0 of 1", x.end(0), 0);
        Check.due("now it is empty", x.count(6), 0);
        Check.due("1 of none", x.end(1), -1);
    }

    private static void endOfFullTape() {
        Check.says("THE TAPE has its first n bytes alone");
        EssayBones x = filled(3000);
        for (int bad : new int[] {3001, 3020, -1, -3000, Integer.MAX_VALUE, Integer.MIN_VALUE}) {
            Check.due("end(" + bad + ")", x.end(bad), -1);
            Check.due("still 3000", x.count(6), 3000);
        }
        Check.due("end(3000)", x.end(3000), 3000);
        Check.due("end(2999)", x.end(2999), 2999);
        Check.due("end(3000) of 2999", x.end(3000), -1);
        Check.due("still 2999", x.count(6), 2999);
    }

    private static void refusedEndLeavesBytes() {
        Check.says("NONE when it has not so many");
        EssayBones x = new EssayBones();
        Check.tape(x, "ab cd. e!");
        Check.due("one too many", x.end(10), -1);
        Check.due("one too few", x.end(-1), -1);
        Check.due("read", x.read(), 2);
        Check.due("words", x.sentence(0, 0), 2);
        Check.due("last byte", x.word(1, 0, 0), 'e');
    }

    private static void cutBytesAreGone() {
        Check.says("THE TAPE has its first n bytes alone");
        EssayBones x = new EssayBones();
        Check.tape(x, "ab cd. e*");
        Check.due("without what is wrong", x.end(6), 6);
        Check.due("new bytes stand in the place of the old", x.feed(0x66213f20, BLANKS, BLANKS, BLANKS, BLANKS), 26);
        Check.due("without the second end", x.end(8), 8);
        Check.due("read", x.read(), 2);
        Check.due("the first byte of the second", x.word(1, 0, 0), 'f');
    }

    private static void readingEmpties() {
        Check.says("each call that reads it empties it");
        EssayBones x = new EssayBones();
        Check.due("stop", Check.stop(x, "the"), 1);
        Check.due("tape", x.count(6), 0);
        Check.due("nothing is left for a second one", x.stop(), -2);
        Check.due("sign", Check.sign(x, "but", 2), 1);
        Check.due("tape", x.count(6), 0);
        Check.due("nothing is left for a second one", x.sign(2), -2);
        Check.due("sign 0", Check.sign(x, "but", 0), 0);
        Check.due("tape", x.count(6), 0);
        Check.due("ending", Check.ending(x, "s"), 1);
        Check.due("tape", x.count(6), 0);
        Check.due("nothing is left for a second one", x.ending(), -2);
        Check.due("read", Check.read(x, "A b."), 1);
        Check.due("tape", x.count(6), 0);
        Check.due("nothing is left for a second one", x.read(), -1);
        Check.due("end(1)", x.end(1), -1);
        Check.due("twenty bytes come first", blanks(x), 20);
    }

    private static void refusedReadingEmpties() {
        Check.says("each call that reads it empties it");
        EssayBones x = new EssayBones();
        Check.due("stop", Check.stop(x, "no word"), -2);
        Check.due("tape", x.count(6), 0);
        Check.due("sign", Check.sign(x, "no word", 1), -2);
        Check.due("tape", x.count(6), 0);
        Check.due("sign of no KIND", Check.sign(x, "word", 5), -2);
        Check.due("tape", x.count(6), 0);
        Check.due("sign of no KIND", Check.sign(x, "word", -1), -2);
        Check.due("tape", x.count(6), 0);
        Check.due("ending", Check.ending(x, "sevenss"), -2);
        Check.due("tape", x.count(6), 0);
        String[] faulty = {"a*", "abcdefghijklmnopq.", "a ".repeat(41), "a.".repeat(25), ".", "a"};
        for (int k = 0; k < faulty.length; k++) {
            Check.due("read", Check.read(x, faulty[k]), -1);
            Check.due("its kind", x.fault(0), k + 1);
            Check.due("tape", x.count(6), 0);
        }
    }

    private static void fullReadingEmpties() {
        Check.says("each call that reads it empties it");
        EssayBones x = new EssayBones();
        for (int k = 1; k <= 10; k++) {
            Check.due("ending " + k, Check.ending(x, "e" + k), k);
        }
        Check.due("an 11th", Check.ending(x, "more"), -3);
        Check.due("tape", x.count(6), 0);
        for (int k = 1; k <= 30; k++) {
            Check.due("sign " + k, Check.sign(x, "e" + k, 1), k);
        }
        Check.due("a 31st", Check.sign(x, "more", 1), -3);
        Check.due("tape", x.count(6), 0);
        for (int k = 1; k <= 60; k++) {
            Check.due("stop " + k, Check.stop(x, "e" + k), k);
        }
        Check.due("a 61st", Check.stop(x, "more"), -3);
        Check.due("tape", x.count(6), 0);
    }

    private static void othersLeaveIt() {
        Check.says("each call that reads it empties it");
        EssayBones x = new EssayBones();
        Check.essay(x, "A b. A c. B c.", 3);
        Check.tape(x, "left");
        x.weight(0, 1);
        x.weight(4, 1);
        x.fault(0);
        x.sentence(0, 4);
        x.word(0, 0, 0);
        x.shared(0, 1);
        x.cost(0, 1);
        x.tree();
        x.next();
        x.finding(0);
        x.marks(1, 1, 1, 1, 1);
        x.pair(0, 1);
        x.order(0);
        x.ordered(0);
        x.stands(0);
        x.arrange(0);
        x.move(2, 0);
        x.end(5);
        x.end(-1);
        Check.due("tape", x.count(6), 4);
        Check.due("it is a word still", x.stop(), 1);
        Check.essay(x, "left.", 1);
        Check.due("that word", x.sentence(0, 1), 0);
    }
}
