/** Promises 8 (read), 9 (fault), 10 (sentence), 11 (word) and 12 (shared). */
public final class EssayTest {
    public static void main(String[] args) {
        faults();
        longTexts();
        faultLeavesEssay();
        readForgetsPairs();
        paragraphs();
        sentences();
        tableChanges();
        words();
        shared();
        manyKeys();
        manyReads();
        Check.close();
    }

    private static void expect(String text, int kind, int place) {
        EssayBones x = new EssayBones();
        int got = Check.read(x, text);
        Check.due("read " + text, got < 0 ? got : 0, kind == 0 ? 0 : -1);
        Check.due("kind of " + text, x.fault(0), kind);
        Check.due("place of " + text, x.fault(1), place);
        Check.due("tape after " + text, x.count(6), 0);
    }

    private static void faults() {
        expect("a.", 0, -1);
        expect("", 6, 0);
        expect("   ", 6, 3);
        expect("\n, ;:", 6, 5);
        expect("a", 6, 1);
        expect("a. b ", 6, 5);
        expect("a. b,\n\n", 6, 7);
        expect(".", 5, 0);
        expect(" ,!", 5, 2);
        expect("a..", 5, 2);
        expect("a. ?", 5, 3);
        expect("a*.", 1, 1);
        expect("a\t.", 1, 1);
        expect("a\r\n.", 1, 1);
        expect("a\u0000.", 1, 1);
        expect("a. \u00ff", 1, 3);
        expect("a. \"b\".", 1, 3);
        expect("a-b. . c", 1, 1);
        expect("a. . c-d", 5, 3);
        expect("0@", 1, 1);
        expect("a[", 1, 1);
        expect("a`", 1, 1);
        expect("a{", 1, 1);
        expect("a/", 1, 1);
        expect("abcdefghijklmno9'.", 2, 16);
        expect("x abcdefghijklmnopqr.", 2, 18);
        expect("abcdefghijklmnop*", 1, 16);
        expect("It's 5, o'clock; YES: no? ''!", 0, -1);
    }

    private static void longTexts() {
        expect("a ".repeat(40) + ".", 0, -1);
        expect("a ".repeat(40) + "bc.", 3, 80);
        expect("a ".repeat(40) + "abcdefghijklmnopqr.", 3, 80);
        expect("x." + "a,".repeat(40) + "b.", 3, 82);
        expect("a.".repeat(24), 0, -1);
        expect("a.".repeat(24) + " ,\n\n", 0, -1);
        expect("a.".repeat(24) + " b", 4, 49);
        expect("a.".repeat(24) + ".", 5, 48);
        expect("a.".repeat(24) + "\n\n*", 1, 50);
        String most = "ab ".repeat(40) + ".";
        expect(most.repeat(24), 0, -1);
        expect(("a ".repeat(39) + "a.").repeat(24) + " ".repeat(1080), 0, -1);
        EssayBones x = new EssayBones();
        Check.due("24 sentences of 40 words", Check.read(x, most.repeat(24)), 24);
        Check.due("words of the last", x.sentence(23, 0), 40);
        Check.due("last byte", x.word(23, 39, 1), 'b');
    }

    private static void faultLeavesEssay() {
        EssayBones x = new EssayBones();
        Check.due("ahead of any: kind", x.fault(0), 0);
        Check.due("ahead of any: place", x.fault(1), -1);
        Check.due("read", Check.read(x, "Rain helps corn.\n\nWe like rain."), 2);
        x.pair(1, 0);
        Check.due("a fault", Check.read(x, "One two three. Four. Five-six."), -1);
        Check.due("sentences", x.count(0), 2);
        Check.due("paragraphs", x.count(1), 2);
        Check.due("pairs", x.count(5), 1);
        Check.due("words", x.sentence(0, 0), 3);
        Check.due("first byte", x.word(1, 0, 0), 'w');
        Check.due("fault", x.fault(0), 1);
        Check.due("place", x.fault(1), 25);
        Check.due("another what", x.fault(2), -1);
        Check.due("another what", x.fault(-1), -1);
        Check.stop(x, "a b");
        Check.due("other calls leave the fault", x.fault(0), 1);
        Check.due("read", Check.read(x, "One."), 1);
        Check.due("no fault", x.fault(0), 0);
        Check.due("no place", x.fault(1), -1);
        Check.due("words", x.sentence(0, 0), 1);
        Check.due("second sentence", x.sentence(1, 0), -2);
        Check.due("an empty tape", x.read(), -1);
        Check.due("is a fault", x.fault(0), 6);
        Check.due("at 0", x.fault(1), 0);
        Check.due("sentences", x.count(0), 1);
    }

    private static void readForgetsPairs() {
        EssayBones x = new EssayBones();
        Check.read(x, "A. B. C.");
        Check.due("pair", x.pair(0, 1), 1);
        Check.due("pair", x.pair(1, 2), 2);
        Check.due("read", Check.read(x, "A. B. C."), 3);
        Check.due("pairs", x.count(5), 0);
        Check.due("the other way round", x.pair(2, 0), 1);
    }

    private static void paragraphRow(String text, int... want) {
        EssayBones x = new EssayBones();
        Check.due("read " + text, Check.read(x, text), want.length);
        for (int i = 0; i < want.length; i++) {
            Check.due("paragraph " + i + " of " + text, x.sentence(i, 3), want[i]);
        }
        Check.due("paragraphs of " + text, x.count(1), want[want.length - 1] + 1);
    }

    private static void paragraphs() {
        paragraphRow("a.\nb.", 0, 0);
        paragraphRow("a.\n\nb.", 0, 1);
        paragraphRow("a. \n   \n b.", 0, 1);
        paragraphRow("a.\n\n\n \n\nb.", 0, 1);
        paragraphRow("a.\n\n,\n\nb.", 0, 1);
        paragraphRow("a.\n,\nb.", 0, 0);
        paragraphRow("a.\n;\n\nb.", 0, 1);
        paragraphRow("a.,\n\n:b.", 0, 1);
        paragraphRow("\n\n\na.b.", 0, 0);
        paragraphRow("a,\n\nb. c.", 0, 0);
        paragraphRow("a\n\n. c.", 0, 0);
        paragraphRow("a\n.\nc.", 0, 0);
        paragraphRow("a. b\n\nc. d.\n\ne.\n\n", 0, 0, 0, 1);
    }

    private static void sentences() {
        EssayBones x = Check.withSigns();
        Check.stop(x, "the");
        Check.ending(x, "s");
        // Reason and example hang on what stands just ahead of them.
        Check.read(x, "Dogs bark dog, the dogs. Because dogs bark because dogs.\n\nSay dogs bark.");
        int[][] want = {
            {5, 2, 0, 0, -1, 1, 3, 0},
            {5, 3, 1, 0, 0, 1, 2, 1},
            {3, 2, 3, 1, 1, 0, 1, 2},
        };
        for (int i = 0; i < want.length; i++) {
            for (int what = 0; what < 8; what++) {
                Check.due("sentence " + i + ", " + what, x.sentence(i, what), want[i][what]);
            }
            Check.due("what -1", x.sentence(i, -1), -2);
            Check.due("what 8", x.sentence(i, 8), -2);
        }
        for (int what = -1; what < 9; what++) {
            Check.due("sentence -1", x.sentence(-1, what), -2);
            Check.due("sentence 3", x.sentence(3, what), -2);
        }
        Check.due("far off", x.sentence(Integer.MAX_VALUE, Integer.MIN_VALUE), -2);
        // Where it was goes along with it, its paragraph does not.
        Check.due("move", x.move(2, 0), 3);
        Check.were("moved", x, 2, 0, 1);
        Check.due("paragraph of the first", x.sentence(0, 3), 0);
        Check.due("paragraph of the last", x.sentence(2, 3), 1);
        Check.due("words of the first", x.sentence(0, 0), 3);
        Check.due("kind of the first", x.sentence(0, 2), 3);
        Check.due("keys of the last", x.sentence(2, 1), 3);
        Check.due("byte of the first", x.word(0, 0, 0), 's');
    }

    /** A sign, a stop and an ending that come or go later are seen in what was read before. */
    private static void tableChanges() {
        EssayBones x = new EssayBones();
        Check.read(x, "But rains rain. Rain but.");
        Check.due("kind", x.sentence(0, 2), 0);
        Check.due("keys", x.sentence(0, 1), 3);
        Check.due("shared", x.shared(0, 1), 2);
        Check.sign(x, "but", 2);
        Check.due("kind", x.sentence(0, 2), 2);
        Check.due("keys", x.sentence(0, 1), 2);
        Check.due("a sign behind the first word is a key", x.sentence(1, 1), 2);
        Check.due("shared", x.shared(0, 1), 1);
        Check.ending(x, "s");
        Check.due("keys", x.sentence(0, 1), 1);
        Check.stop(x, "rain");
        Check.due("keys", x.sentence(0, 1), 1);
        Check.due("shared", x.shared(0, 1), 0);
        Check.stop(x, "rains");
        Check.due("keys", x.sentence(0, 1), 0);
        Check.stop(x, "but");
        Check.due("a stop that is a sign is a sign", x.sentence(0, 2), 2);
        Check.due("keys", x.sentence(1, 1), 0);
    }

    private static void words() {
        EssayBones x = new EssayBones();
        Check.read(x, "IT'S Zz 09, no.\nAbcdefghijklmnoP!");
        String[][] want = {{"it's", "zz", "09", "no"}, {"abcdefghijklmnop"}};
        for (int i = 0; i < want.length; i++) {
            for (int k = 0; k < want[i].length; k++) {
                for (int j = 0; j < want[i][k].length(); j++) {
                    Check.due("byte", x.word(i, k, j), want[i][k].charAt(j));
                }
                Check.due("behind the last byte", x.word(i, k, want[i][k].length()), -1);
                Check.due("ahead of the first", x.word(i, k, -1), -1);
            }
            Check.due("behind the last word", x.word(i, want[i].length, 0), -1);
            Check.due("ahead of the first", x.word(i, -1, 0), -1);
        }
        Check.due("behind the last sentence", x.word(2, 0, 0), -1);
        Check.due("ahead of the first", x.word(-1, 0, 0), -1);
        int most = Integer.MAX_VALUE;
        Check.due("far off", x.word(most, most, most), -1);
        Check.due("far off", x.word(0, most, 0), -1);
        Check.due("far off", x.word(0, 0, most), -1);
    }

    private static void shared() {
        EssayBones x = new EssayBones();
        Check.read(x, "a b c d e f. f E x d, C. y. f f f. b a c d e f.");
        Check.due("four", x.shared(0, 1), 4);
        Check.due("the other way round", x.shared(1, 0), 4);
        Check.due("none", x.shared(0, 2), 0);
        Check.due("each once", x.shared(0, 3), 1);
        Check.due("more than four", x.shared(0, 4), 6);
        Check.due("with itself: all its keys", x.shared(1, 1), 5);
        for (int bad : new int[] {-1, 5, Integer.MIN_VALUE, Integer.MAX_VALUE}) {
            Check.due("no such", x.shared(0, bad), -2);
            Check.due("no such", x.shared(bad, 0), -2);
            Check.due("no such", x.shared(bad, bad), -2);
        }
    }

    /** Sentences of 28 unlike words, half of which come again in the next one. */
    static String unlikeWords() {
        StringBuilder text = new StringBuilder();
        for (int s = 0; s < 24; s++) {
            for (int k = 0; k < 28; k++) {
                int w = 14 * s + k;
                text.append((char) ('a' + w / 26)).append((char) ('a' + w % 26)).append('\'').append(' ');
            }
            text.append('.');
        }
        return text.toString();
    }

    /** Hundreds of unlike words, each known again. */
    private static void manyKeys() {
        EssayBones x = new EssayBones();
        Check.due("read", Check.read(x, unlikeWords()), 24);
        for (int i = 0; i < 24; i++) {
            Check.due("keys", x.sentence(i, 1), 28);
            for (int j = 0; j < 24; j += 3) {
                int apart = Math.abs(i - j);
                Check.due("shared " + i + " " + j, x.shared(i, j), apart > 2 ? 0 : 28 - 14 * apart);
            }
        }
    }

    /** An essay leaves no words and keys behind for the next one. */
    private static void manyReads() {
        EssayBones x = new EssayBones();
        String faulty = "ab ".repeat(40).concat(".").repeat(24) + "-";
        Check.due("faulty", Check.read(x, faulty), -1);
        Check.due("read", Check.read(x, unlikeWords()), 24);
        for (int k = 0; k < 2; k++) {
            Check.due("keys of the last", x.sentence(23, 1), 28);
            Check.due("shared by the last", x.shared(22, 23), 14);
            Check.due("last word", x.word(23, 27, 2), 39);
            Check.due("faulty", Check.read(x, k == 0 ? faulty : "-"), -1);
        }
    }
}
