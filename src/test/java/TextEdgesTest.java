/** The boundaries of essays, FAULTS and PARAGRAPHS and of promise 8 (read), sentence by sentence. */
public final class TextEdgesTest {
    private static final String SIXTEEN = "abcdefghijklmnop";

    public static void main(String[] args) {
        everyByteInside();
        everyByteFirst();
        everyByteLast();
        whatEnds();
        sixteenBytes();
        fortyWords();
        mostSentences();
        mostOfAll();
        endWithoutWord();
        notEnded();
        firstFromTheLeft();
        twoLineEnds();
        whereNoneIsBegun();
        whereOneHasBeen();
        moreBeginNoMore();
        mostParagraphs();
        capitals();
        noPairsThen();
        faultLeavesAll();
        readAfterMoves();
        Check.close();
    }

    private static boolean isOfWords(int b) {
        return "abcdefghijklmnopqrstuvwxyzABCDEFGHIJKLMNOPQRSTUVWXYZ0123456789'".indexOf(b) >= 0;
    }

    private static boolean isBetween(int b) {
        return " \n,;:".indexOf(b) >= 0;
    }

    private static boolean isEnd(int b) {
        return ".!?".indexOf(b) >= 0;
    }

    private static void everyByteInside() {
        Check.says("words of letters (A .. Z, a .. z), digits and ' (39); between them blanks (32), 10, and , ; :");
        for (int b = 0; b < 256; b++) {
            EssayBones x = new EssayBones();
            String text = "a" + (char) b + "c.";
            if (isOfWords(b)) {
                Check.due("read with " + b, Check.read(x, text), 1);
                Check.due("one word with " + b, x.sentence(0, 0), 1);
                Check.due("small letter of " + b, x.word(0, 0, 1), Character.toLowerCase((char) b));
                Check.due("the third byte", x.word(0, 0, 2), 'c');
            } else if (isBetween(b)) {
                Check.due("read with " + b, Check.read(x, text), 1);
                Check.due("two words with " + b, x.sentence(0, 0), 2);
            } else if (isEnd(b)) {
                Check.due("read with " + b, Check.read(x, text), 2);
            } else {
                Check.faulty(x, text, 1, 1);
            }
        }
    }

    private static void everyByteFirst() {
        Check.says("1 a byte that is none of these (at it)");
        for (int b = 0; b < 256; b++) {
            EssayBones x = new EssayBones();
            String text = (char) b + "c.";
            if (isOfWords(b) || isBetween(b)) {
                Check.due("read from " + b + " on", Check.read(x, text), 1);
                Check.due("bytes of the word", x.word(0, 0, 1), isOfWords(b) ? 'c' : -1);
            } else {
                Check.faulty(x, text, isEnd(b) ? 5 : 1, 0);
            }
        }
    }

    private static void everyByteLast() {
        Check.says("1 a byte that is none of these (at it)");
        for (int b = 0; b < 256; b++) {
            EssayBones x = new EssayBones();
            String text = "a. " + (char) b;
            if (isBetween(b)) {
                Check.due("read up to " + b, Check.read(x, text), 1);
            } else if (isOfWords(b)) {
                Check.faulty(x, text, 6, 4);
            } else {
                Check.faulty(x, text, isEnd(b) ? 5 : 1, 3);
            }
        }
    }

    private static void whatEnds() {
        Check.says("a SENTENCE has words and ends at . ! or ?");
        for (String text : new String[] {"a.b.", "a!b!", "a?b?", "a,.b;!", "a\n\n.b ?", " ,a.\n;b!,"}) {
            EssayBones x = Check.essay(new EssayBones(), text, 2);
            Check.due("words of " + text, x.sentence(0, 0), 1);
            Check.due("words of " + text, x.sentence(1, 0), 1);
            Check.due("second of " + text, x.word(1, 0, 0), 'b');
        }
        EssayBones x = Check.essay(new EssayBones(), "a b,c;d:e\nf  ,  g.", 1);
        Check.due("all between are alike", x.sentence(0, 0), 7);
    }

    private static void sixteenBytes() {
        Check.says("2 the 17th byte of a word (at it)");
        EssayBones x = Check.essay(new EssayBones(), SIXTEEN + ".", 1);
        Check.due("the 16th byte", x.word(0, 0, 15), 'p');
        Check.due("no 17th byte", x.word(0, 0, 16), -1);
        for (String last : new String[] {"q", "Q", "0", "'"}) {
            Check.faulty(x, SIXTEEN + last + ".", 2, 16);
            Check.faulty(x, "a. b " + SIXTEEN + last, 2, 21);
            Check.faulty(x, "''''''''''''''''" + last, 2, 16);
            Check.faulty(x, "0123456789012345" + last, 2, 16);
        }
        Check.faulty(x, SIXTEEN + SIXTEEN + SIXTEEN, 2, 16);
        Check.due("the 16 bytes are there still", x.word(0, 0, 15), 'p');
        for (String next : new String[] {" q", ",q", ";q", ":q", "\nq"}) {
            Check.essay(x, SIXTEEN + next + SIXTEEN.substring(1) + ".", 1);
            Check.due("two words", x.sentence(0, 0), 2);
        }
        for (String next : new String[] {".q", "!q", "?q"}) {
            Check.essay(x, SIXTEEN + next + SIXTEEN.substring(1) + ".", 2);
        }
        Check.faulty(x, SIXTEEN + "*", 1, 16);
        Check.faulty(x, SIXTEEN, 6, 16);
    }

    private static void fortyWords() {
        Check.says("3 the 41st word of a SENTENCE");
        String forty = "ab ".repeat(39) + "yz";
        EssayBones x = Check.essay(new EssayBones(), forty + ".", 1);
        Check.due("words", x.sentence(0, 0), 40);
        Check.due("the 40th word", x.word(0, 39, 1), 'z');
        Check.due("no 41st word", x.word(0, 40, 0), -1);
        Check.faulty(x, forty + " c", 3, 120);
        Check.faulty(x, forty + " cd.", 3, 120);
        Check.faulty(x, forty + ",\n\n;: cd.", 3, 125);
        Check.faulty(x, forty + " " + SIXTEEN + "q", 3, 120);
        Check.faulty(x, "a." + forty + " c", 3, 122);
        Check.due("words", x.sentence(0, 0), 40);
        Check.essay(x, forty + "." + forty + "!", 2);
        Check.due("words of the second", x.sentence(1, 0), 40);
        Check.essay(x, forty + " , \n\n.", 1);
        Check.faulty(x, forty + ".." + " c", 5, 120);
        Check.faulty(x, forty + "*", 1, 119);
        Check.faulty(x, forty, 6, 119);
    }

    private static void mostSentences() {
        Check.says("4 the first word of the 25th (each at its first byte)");
        String most = "a ".repeat(3) + ".";
        EssayBones x = Check.essay(new EssayBones(), most.repeat(23), 23);
        Check.essay(x, most.repeat(24), 24);
        Check.due("the last", x.sentence(23, 0), 3);
        Check.due("none behind it", x.sentence(24, 0), -2);
        Check.faulty(x, most.repeat(24) + "b", 4, 168);
        Check.faulty(x, most.repeat(25), 4, 168);
        Check.faulty(x, most.repeat(24) + "\n\n, b.", 4, 172);
        Check.faulty(x, most.repeat(24) + SIXTEEN + "q.", 4, 168);
        Check.due("24 are there still", x.count(0), 24);
        Check.essay(x, most.repeat(24) + " ,;:\n\n\n", 24);
        Check.faulty(x, most.repeat(24) + ".", 5, 168);
        Check.faulty(x, most.repeat(24) + " \u00e9", 1, 169);
        Check.faulty(x, most.repeat(23) + "b", 6, 162);
    }

    private static void mostOfAll() {
        Check.says("At most 24 SENTENCES of 40 words of 16 bytes.");
        StringBuilder text = new StringBuilder();
        for (int s = 0; s < 24; s++) {
            for (int k = 0; k < 40; k++) {
                text.append((char) ('a' + s)).append((char) ('a' + k % 26)).append(k < 39 ? ' ' : '.');
            }
        }
        EssayBones x = Check.essay(new EssayBones(), text.toString(), 24);
        for (int s = 0; s < 24; s++) {
            Check.due("words", x.sentence(s, 0), 40);
            Check.due("KEYS", x.sentence(s, 1), 26);
            Check.due("the last word", x.word(s, 39, 0), 'a' + s);
            Check.due("the last word", x.word(s, 39, 1), 'n');
        }
        // With 960 words ahead, one more is too many, whichever way.
        Check.faulty(x, text + "a", 4, 24 * 120);
        Check.due("the last word", x.word(23, 39, 1), 'n');
        EssayBones y = Check.essay(new EssayBones(), text.toString(), 24);
        Check.faulty(y, text.substring(0, 24 * 120 - 1) + " a.", 3, 24 * 120);
        Check.due("the last word", y.word(23, 39, 1), 'n');
        // 176 words of 16 bytes: as many as THE TAPE holds.
        String line = (SIXTEEN + " ").repeat(8);
        EssayBones z = Check.essay(new EssayBones(), (line.substring(0, 135) + ".").repeat(22), 22);
        Check.due("the last word", z.word(21, 7, 15), 'p');
        Check.due("each once", z.sentence(21, 1), 1);
    }

    private static void endWithoutWord() {
        Check.says("5 an end with no word ahead of it (at it)");
        EssayBones x = new EssayBones();
        for (String end : new String[] {".", "!", "?"}) {
            Check.faulty(x, end, 5, 0);
            Check.faulty(x, " ,;:\n" + end, 5, 5);
            Check.faulty(x, "a" + end + end, 5, 2);
            Check.faulty(x, "a. b!" + end, 5, 5);
            Check.faulty(x, "a?\n\n" + end + "b.", 5, 4);
            Check.faulty(x, end + "a.", 5, 0);
            Check.essay(x, "a" + end, 1);
            Check.essay(x, "'" + end, 1);
            Check.essay(x, "a ,;:\n" + end, 1);
        }
    }

    private static void notEnded() {
        Check.says("6 a SENTENCE that isn't ended, or none at all (at the text's length)");
        EssayBones x = new EssayBones();
        Check.faulty(x, "", 6, 0);
        Check.faulty(x, " ", 6, 1);
        Check.faulty(x, "\n\n", 6, 2);
        Check.faulty(x, ",;:", 6, 3);
        Check.faulty(x, " ".repeat(3000), 6, 3000);
        Check.faulty(x, "a", 6, 1);
        Check.faulty(x, "a ,\n", 6, 4);
        Check.faulty(x, "a. b", 6, 4);
        Check.faulty(x, "a. b ", 6, 5);
        Check.due("no essay", x.count(0), 0);
        Check.faulty(x, "a.b" + " ".repeat(2997), 6, 3000);
        Check.essay(x, "a.", 1);
        EssayBones y = Check.essay(new EssayBones(), "a." + " ".repeat(2998), 1);
        Check.essay(y, " ".repeat(2998) + "a.", 1);
    }

    private static void firstFromTheLeft() {
        Check.says("FAULTS, the first come to from the left, its KIND and PLACE");
        String longWord = SIXTEEN + "q";
        String manyWords = "a ".repeat(41);
        EssayBones x = new EssayBones();
        Check.faulty(x, "a* " + longWord + ". .", 1, 1);
        Check.faulty(x, longWord + " *. .", 2, 16);
        Check.faulty(x, manyWords + "* " + longWord, 3, 80);
        Check.faulty(x, "* " + manyWords, 1, 0);
        Check.faulty(x, longWord + manyWords, 2, 16);
        Check.faulty(x, "a.".repeat(24) + manyWords, 4, 48);
        Check.faulty(x, manyWords + ".a".repeat(24), 3, 80);
        Check.faulty(x, "a. . *", 5, 3);
        Check.faulty(x, "a. * .", 1, 3);
        Check.faulty(x, "a.. b", 5, 2);
        Check.faulty(x, "a.".repeat(24) + "b*", 4, 48);
        Check.faulty(x, "a.".repeat(24) + "*b", 1, 48);
        Check.faulty(x, "a.".repeat(24) + ".b", 5, 48);
        Check.faulty(x, "*", 1, 0);
        Check.faulty(x, "a b*", 1, 3);
    }

    private static void paragraphs(String text, int... want) {
        EssayBones x = Check.essay(new EssayBones(), text, want.length);
        for (int i = 0; i < want.length; i++) {
            Check.due("PARAGRAPH of " + i + " of " + text, x.sentence(i, 3), want[i]);
        }
        Check.due("PARAGRAPHS of " + text, x.count(1), want[want.length - 1] + 1);
    }

    private static void twoLineEnds() {
        Check.says("Two 10 with nothing but blanks between them");
        paragraphs("a. b.", 0, 0);
        paragraphs("a.\nb.", 0, 0);
        paragraphs("a. \n b.", 0, 0);
        paragraphs("a.\n\nb.", 0, 1);
        paragraphs("a!\n \nb.", 0, 1);
        paragraphs("a?  \n" + " ".repeat(100) + "\n  b.", 0, 1);
        for (String between : new String[] {",", ";", ":", " , ", " ;", ": ", ",;:"}) {
            paragraphs("a.\n" + between + "\nb.", 0, 0);
            paragraphs("a." + between + "\n\nb.", 0, 1);
            paragraphs("a.\n\n" + between + "b.", 0, 1);
            paragraphs("a.\n" + between + "\n\nb.", 0, 1);
            paragraphs("a.\n" + between + "\n" + between + "\nb.", 0, 0);
        }
    }

    private static void whereNoneIsBegun() {
        Check.says("where no SENTENCE is begun");
        paragraphs("x. a\n\nb. c.", 0, 0, 0);
        paragraphs("x. a\n\n. c.", 0, 0, 0);
        paragraphs("x. a,\n \n;b.c.", 0, 0, 0);
        paragraphs("x. a\n.\nc.", 0, 0, 0);
        paragraphs("x.\na.\nb.\nc.", 0, 0, 0, 0);
        paragraphs("x.\na\n.\n\nc.", 0, 0, 1);
    }

    private static void whereOneHasBeen() {
        Check.says("and one has been, begin a new PARAGRAPH (from 0 on) for the next one");
        paragraphs("\n\na.", 0);
        paragraphs(" \n \n\n,\n\na. b.", 0, 0);
        paragraphs("\n\na.\nb.", 0, 0);
        paragraphs("\na.\n\nb.", 0, 1);
        // Behind the last one they begin none.
        paragraphs("a.\n\n", 0);
        paragraphs("a. b.\n\nc.\n\n \n\n", 0, 0, 1);
    }

    private static void moreBeginNoMore() {
        Check.says("more of them begin no more");
        for (int many = 2; many <= 12; many++) {
            paragraphs("a." + "\n".repeat(many) + "b.c.", 0, 1, 1);
        }
        paragraphs("a.\n\n,\n\nb.", 0, 1);
        paragraphs("a.\n\n;\n\n:\n \n\n,b.", 0, 1);
        paragraphs("a.\n\n\n\nb.\n\n\nc.\n\nd.", 0, 1, 2, 3);
    }

    private static void mostParagraphs() {
        Check.says("begin a new PARAGRAPH (from 0 on) for the next one");
        int[] each = new int[24];
        for (int i = 0; i < 24; i++) {
            each[i] = i;
        }
        paragraphs("a.\n\n".repeat(24), each);
        EssayBones x = Check.essay(new EssayBones(), "a.\n\n".repeat(24), 24);
        Check.faulty(x, "a.\n\n".repeat(24) + "a.", 4, 96);
        Check.due("PARAGRAPHS", x.count(1), 24);
        Check.essay(x, "a.", 1);
        Check.due("PARAGRAPHS", x.count(1), 1);
    }

    private static void capitals() {
        Check.says("Capital letters are as small ones.");
        EssayBones x = Check.essay(new EssayBones(), "AZ az Az aZ. MNOP. mnop.", 3);
        Check.due("one KEY", x.sentence(0, 1), 1);
        Check.due("a KEY that both have", x.shared(1, 2), 1);
        Check.due("A is a", x.word(0, 0, 0), 'a');
        Check.due("Z is z", x.word(0, 0, 1), 'z');
        Check.due("a stop", Check.stop(x, "Az"), 1);
        Check.due("no KEYS", x.sentence(0, 1), 0);
        Check.due("the same one", Check.stop(x, "aZ"), 0);
        Check.due("a SIGN", Check.sign(x, "AZ", 3), 1);
        Check.due("an EXAMPLE", x.sentence(0, 2), 3);
        Check.due("the same one", Check.sign(x, "az", 4), 1);
        Check.due("an ENDING", Check.ending(x, "P"), 1);
        Check.due("the same one", Check.ending(x, "p"), 0);
        Check.due("an ENDING", Check.ending(x, "P"), 1);
        Check.essay(x, "mnop MNO Mnop.", 1);
        Check.due("KEYS", x.sentence(0, 1), 1);
    }

    private static void noPairsThen() {
        Check.says("how many SENTENCES (there are no PAIRS then)");
        EssayBones x = Check.essay(new EssayBones(), "a. b. c.", 3);
        Check.due("a PAIR", x.pair(0, 2), 1);
        Check.due("a PAIR", x.pair(1, 2), 2);
        Check.faulty(x, "a", 6, 1);
        Check.due("with a FAULT they are kept", x.count(5), 2);
        Check.due("and hold", x.pair(2, 0), -2);
        Check.essay(x, "a. b. c.", 3);
        Check.due("no PAIRS", x.count(5), 0);
        Check.due("the other way round", x.pair(2, 0), 1);
        Check.due("the other way round", x.pair(2, 1), 2);
    }

    private static EssayBones told() {
        EssayBones x = Check.withSigns();
        Check.stop(x, "the");
        Check.ending(x, "s");
        Check.essay(x, "Rains help. Because rain helps corn.\n\nBut the roads. So rain.", 4);
        x.pair(1, 2);
        x.order(0);
        // Without SIGNS, 2 hangs on 3, and that on 1.
        x.weight(2, 0);
        Check.due("move", x.move(3, 1), 3);
        return x;
    }

    private static void faultLeavesAll() {
        Check.says("NONE with a FAULT.");
        String[] faulty = {"One. Two-three.", "One. " + SIXTEEN + "q.", "One. " + "a ".repeat(41), "a.".repeat(25),
            "One. Two.\n\n.", "One. Two"};
        for (int k = 0; k < faulty.length; k++) {
            EssayBones x = told();
            EssayBones y = told();
            Check.due("read", Check.read(x, faulty[k]), -1);
            // The fault itself is what may be unlike: the same one with no sentence ahead of it.
            Check.due("read", Check.read(x, ""), -1);
            Check.due("read", Check.read(y, ""), -1);
            Shown.same("a FAULT of KIND " + (k + 1), x, y);
        }
    }

    private static void readAfterMoves() {
        Check.says("THE TAPE (read) is the essay: how many SENTENCES");
        EssayBones x = told();
        Check.were("moved", x, 0, 2, 3, 1);
        Check.essay(x, "Rain. Corn.\n\n\nRoads.", 3);
        Check.were("a new one stands as it was read", x, 0, 1, 2);
        Check.due("its PARAGRAPHS", x.count(1), 2);
        Check.due("PARAGRAPH", x.sentence(1, 3), 0);
        Check.due("PARAGRAPH", x.sentence(2, 3), 1);
        Check.due("none behind", x.sentence(3, 0), -2);
    }
}
