/** The boundaries of what is asked of an essay: promises 9 to 12 and 24, sentence by sentence. */
public final class AskEdgesTest {
    private static final int[] FAR = {Integer.MIN_VALUE, Integer.MIN_VALUE + 1, -25, -2, 25, 1 << 16,
        Integer.MAX_VALUE - 1, Integer.MAX_VALUE};

    public static void main(String[] args) {
        faultOfLatest();
        faultOfAnotherWhat();
        sentenceBothSides();
        sentenceOfMost();
        sentenceInTheText();
        wordBothSides();
        wordsOfShorterEssay();
        sharedBothSides();
        sharedMost();
        keysAlike();
        askedFirst();
        countBothSides();
        countRoot();
        countAfterRefused();
        askingChangesNothing();
        Check.close();
    }

    private static void faultOfLatest() {
        Check.says("Of the latest read(), what 0: its FAULT's KIND, 0 without (and ahead of any), 1: its PLACE (NONE)");
        EssayBones x = new EssayBones();
        Check.due("ahead of any", x.fault(0), 0);
        Check.due("ahead of any", x.fault(1), -1);
        Check.faulty(x, "ab*", 1, 2);
        Check.essay(x, "ab.", 1);
        Check.due("without", x.fault(1), -1);
        Check.faulty(x, ".", 5, 0);
        Check.due("other calls that read THE TAPE", Check.stop(x, "*"), -2);
        Check.due("other calls that read THE TAPE", Check.sign(x, "so", 4), 1);
        Check.due("other calls that read THE TAPE", Check.ending(x, "s"), 1);
        Check.due("the latest read is the same", x.fault(0), 5);
        Check.due("the latest read is the same", x.fault(1), 0);
        Check.faulty(x, "a. b", 6, 4);
        Check.faulty(x, "", 6, 0);
        Check.essay(x, "a. b.", 2);
        Check.due("without", x.fault(1), -1);
    }

    private static void faultOfAnotherWhat() {
        Check.says("NONE for another what.");
        EssayBones x = new EssayBones();
        for (int round = 0; round < 3; round++) {
            for (int what : new int[] {-1, 2, 3}) {
                Check.due("fault(" + what + ")", x.fault(what), -1);
            }
            for (int what : FAR) {
                Check.due("fault(" + what + ")", x.fault(what), -1);
            }
            Check.due("read", Check.read(x, round == 0 ? "a b*" : "a."), round == 0 ? -1 : 1);
        }
    }

    private static void sentenceBothSides() {
        Check.says("-2 when there is none such.");
        EssayBones x = new EssayBones();
        for (int what = -1; what <= 8; what++) {
            Check.due("no essay", x.sentence(0, what), -2);
        }
        Check.essay(x, "a b a. b c.\n\nd.", 3);
        int[][] want = {{3, 2, 0, 0, -1, 1, 3, 0}, {2, 2, 0, 0, 0, 1, 2, 1}, {1, 1, 0, 1, 1, 0, 1, 2}};
        for (int i = 0; i < 3; i++) {
            for (int what = 0; what <= 7; what++) {
                Check.due("sentence(" + i + ", " + what + ")", x.sentence(i, what), want[i][what]);
            }
            Check.due("what -1", x.sentence(i, -1), -2);
            Check.due("what 8", x.sentence(i, 8), -2);
            for (int far : FAR) {
                Check.due("what " + far, x.sentence(i, far), -2);
            }
        }
        for (int what = -1; what <= 8; what++) {
            Check.due("sentence(-1, " + what + ")", x.sentence(-1, what), -2);
            Check.due("sentence(3, " + what + ")", x.sentence(3, what), -2);
            for (int far : FAR) {
                Check.due("sentence(" + far + ", " + what + ")", x.sentence(far, what), -2);
            }
        }
    }

    private static void sentenceOfMost() {
        Check.says("4: HEAD (NONE of the ROOT), 5: how many hang on it, 6: how many its PART has");
        EssayBones x = Check.essay(new EssayBones(), "a.", 1);
        Check.due("HEAD of one alone", x.sentence(0, 4), -1);
        Check.due("nothing hangs", x.sentence(0, 5), 0);
        Check.due("its PART", x.sentence(0, 6), 1);
        Check.essay(x, "a.".repeat(24), 24);
        for (int i = 0; i < 24; i++) {
            Check.due("HEAD in a chain", x.sentence(i, 4), i - 1);
            Check.due("hang on it", x.sentence(i, 5), i < 23 ? 1 : 0);
            Check.due("its PART", x.sentence(i, 6), 24 - i);
        }
        Check.due("none", x.sentence(24, 4), -2);
        Check.due("NEAR", x.weight(0, 0), 2);
        for (int i = 0; i < 24; i++) {
            Check.due("HEAD in a star", x.sentence(i, 4), i == 0 ? -1 : 0);
            Check.due("hang on it", x.sentence(i, 5), i == 0 ? 23 : 0);
            Check.due("its PART", x.sentence(i, 6), i == 0 ? 24 : 1);
        }
        EssayBones y = Check.withSigns();
        Check.essay(y, "a.".repeat(23) + "so a.", 24);
        for (int i = 0; i < 24; i++) {
            Check.due("HEAD behind it", y.sentence(i, 4), i < 23 ? i + 1 : -1);
            Check.due("its PART", y.sentence(i, 6), i + 1);
        }
    }

    private static void sentenceInTheText() {
        Check.says("7: which one it was in the text that was read");
        EssayBones x = Check.essay(new EssayBones(), "a. a. a.", 3);
        Check.were("as read", x, 0, 1, 2);
        Check.due("move", x.move(2, 0), 3);
        Check.were("moved", x, 2, 0, 1);
        Check.due("move", x.move(2, 0), 3);
        Check.were("moved again", x, 1, 2, 0);
        Check.faulty(x, "a", 6, 1);
        Check.were("a FAULT", x, 1, 2, 0);
        Check.essay(x, "a. a. a. a.", 4);
        Check.were("read anew", x, 0, 1, 2, 3);
    }

    private static void wordBothSides() {
        Check.says("Word k of SENTENCE i, j-th byte (small letters); NONE.");
        EssayBones x = new EssayBones();
        Check.due("no essay", x.word(0, 0, 0), -1);
        Check.essay(x, "Ab C. DEFGHIJKLMNOPQR0 's 9!", 2);
        String[][] words = {{"ab", "c"}, {"defghijklmnopqr0", "'s", "9"}};
        for (int i = 0; i < words.length; i++) {
            for (int k = 0; k < words[i].length; k++) {
                int length = words[i][k].length();
                Check.due("the byte ahead", x.word(i, k, -1), -1);
                for (int j = 0; j < length; j++) {
                    Check.due("byte " + j, x.word(i, k, j), words[i][k].charAt(j));
                }
                Check.due("the byte behind", x.word(i, k, length), -1);
                for (int far : FAR) {
                    Check.due("byte " + far, x.word(i, k, far), -1);
                }
            }
            Check.due("the word ahead", x.word(i, -1, 0), -1);
            Check.due("the word behind", x.word(i, words[i].length, 0), -1);
            for (int far : FAR) {
                Check.due("word " + far, x.word(i, far, 0), -1);
            }
        }
        Check.due("the SENTENCE ahead", x.word(-1, 0, 0), -1);
        Check.due("the SENTENCE behind", x.word(2, 0, 0), -1);
        for (int far : FAR) {
            Check.due("SENTENCE " + far, x.word(far, 0, 0), -1);
            Check.due("all", x.word(far, far, far), -1);
        }
    }

    private static void wordsOfShorterEssay() {
        Check.says("THE TAPE (read) is the essay");
        EssayBones x = Check.essay(new EssayBones(), "abc def. ghi jkl mno.", 2);
        Check.essay(x, "z.", 1);
        Check.due("its byte", x.word(0, 0, 0), 'z');
        Check.due("nothing of the one ahead", x.word(0, 0, 1), -1);
        Check.due("nothing of the one ahead", x.word(0, 1, 0), -1);
        Check.due("nothing of the one ahead", x.word(1, 0, 0), -1);
        Check.faulty(x, "abc def. ghi*", 1, 12);
        Check.due("its byte", x.word(0, 0, 0), 'z');
        Check.due("nothing of the faulty one", x.word(0, 1, 0), -1);
        Check.due("nothing of the faulty one", x.word(1, 0, 0), -1);
    }

    private static void sharedBothSides() {
        Check.says("How many KEYS two SENTENCES both have; RANGE.");
        EssayBones x = new EssayBones();
        Check.due("no essay", x.shared(0, 0), -2);
        Check.essay(x, "a b c. c b d. e.", 3);
        int[][] want = {{3, 2, 0}, {2, 3, 0}, {0, 0, 1}};
        for (int i = -1; i <= 3; i++) {
            for (int j = -1; j <= 3; j++) {
                boolean good = i >= 0 && i < 3 && j >= 0 && j < 3;
                Check.due("shared(" + i + ", " + j + ")", x.shared(i, j), good ? want[i][j] : -2);
            }
            for (int far : FAR) {
                Check.due("far off", x.shared(i, far), -2);
                Check.due("far off", x.shared(far, i), -2);
            }
        }
    }

    private static void sharedMost() {
        Check.says("How many KEYS two SENTENCES both have");
        StringBuilder forty = new StringBuilder();
        for (int k = 0; k < 40; k++) {
            forty.append((char) ('a' + k / 10)).append(k % 10).append(' ');
        }
        EssayBones x = Check.essay(new EssayBones(), (forty + ".").repeat(24), 24);
        Check.due("all 40", x.shared(0, 23), 40);
        Check.due("all 40", x.shared(23, 0), 40);
        Check.due("none behind", x.shared(0, 24), -2);
        Check.due("none behind", x.shared(24, 23), -2);
        // 24 with 40 unlike words each: as many KEYS as there can be.
        StringBuilder text = new StringBuilder();
        for (int k = 0; k < 960; k++) {
            text.append((char) ('a' + k / 37)).append("abcdefghijklmnopqrstuvwxyz0123456789'".charAt(k % 37));
            text.append(k % 40 == 39 ? '.' : ' ');
        }
        Check.essay(x, text.toString(), 24);
        for (int i = 0; i < 24; i++) {
            Check.due("KEYS", x.sentence(i, 1), 40);
            Check.due("with the first", x.shared(0, i), i == 0 ? 40 : 0);
            Check.due("with the last", x.shared(i, 23), i == 23 ? 40 : 0);
        }
        // The first twelve again, last words first.
        text.setLength(12 * 120);
        StringBuilder again = new StringBuilder();
        for (String word : text.substring(0, 12 * 120).split("[ .]")) {
            again.insert(0, word + (again.length() % 120 == 0 ? "." : " "));
        }
        x = Check.essay(new EssayBones(), text.append(again).toString(), 24);
        for (int i = 0; i < 24; i++) {
            Check.due("KEYS", x.sentence(i, 1), 40);
            Check.due("with the first", x.shared(0, i), i == 0 || i == 23 ? 40 : 0);
            Check.due("with the seventh", x.shared(i, 6), i == 6 || i == 17 ? 40 : 0);
        }
    }

    private static void keysAlike() {
        Check.says("its FOLDED words, each once");
        // Words that are unlike in one byte alone, first, inside or last, or by one byte more.
        String[] rests = {"", "a", "rain", "0123456789", "''"};
        for (String rest : rests) {
            StringBuilder first = new StringBuilder();
            StringBuilder last = new StringBuilder();
            StringBuilder inside = new StringBuilder();
            for (char c : "abcdefghijklmnopqrstuvwxyz0123456789'".toCharArray()) {
                first.append(c).append(rest).append(' ');
                last.append(rest).append(c).append(' ');
                inside.append('z').append(c).append(rest).append(' ');
            }
            EssayBones x = Check.essay(new EssayBones(), first + "." + last + "." + inside + ".", 3);
            for (int i = 0; i < 3; i++) {
                Check.due("37 unlike words", x.sentence(i, 1), 37);
            }
            Check.essay(x, first.append(". ").append(first).toString(), 2);
            Check.due("37 that both have", x.shared(0, 1), 37);
        }
        StringBuilder longer = new StringBuilder();
        for (int length = 1; length <= 16; length++) {
            longer.append("a".repeat(length)).append(' ');
        }
        EssayBones y = Check.essay(new EssayBones(), longer + longer.toString() + ".", 1);
        Check.due("16 unlike ones", y.sentence(0, 1), 16);
    }

    /** Each call as the first one behind a change, and behind tree(). */
    private static void askedFirst() {
        Check.says("(All by the tables as they are.)");
        for (int change = 0; change < 7; change++) {
            for (int call = 0; call < 14; call++) {
                EssayBones x = changed(change);
                EssayBones y = changed(change);
                y.tree();
                Check.due("change " + change + ", call " + call, asked(x, call), asked(y, call));
            }
        }
    }

    private static EssayBones changed(int change) {
        EssayBones x = Check.withSigns();
        Check.essay(x, "Rain helps all. Because rains help rain. But roads rain.\n\nRoads help. Say all roads.", 5);
        x.tree();
        switch (change) {
            case 0: Check.stop(x, "rain"); break;
            case 1: Check.sign(x, "but", 4); break;
            case 2: Check.ending(x, "s"); break;
            case 3: x.weight(0, 0); break;
            case 4: Check.essay(x, "So all. But roads rain.\n\nRain roads.", 3); break;
            case 5: x.move(2, 0); break;
            default: x.arrange(0);
        }
        return x;
    }

    private static int asked(EssayBones x, int call) {
        switch (call) {
            case 0: return x.sentence(1, 1);
            case 1: return x.sentence(1, 2);
            case 2: return x.sentence(1, 4);
            case 3: return x.sentence(0, 6);
            case 4: return x.shared(1, 2);
            case 5: return x.cost(1, 2);
            case 6: return x.next();
            case 7: return x.finding(1);
            case 8: return x.marks(1, 7, 49, 50, 100);
            case 9: return x.order(0);
            case 10: return x.stands(0);
            case 11: return x.arrange(0);
            case 12: return x.move(2, 0);
            default: return x.count(7);
        }
    }

    private static void countBothSides() {
        Check.says("NONE for others.");
        EssayBones x = Check.withSigns();
        Check.stop(x, "the");
        Check.ending(x, "s");
        Check.ending(x, "ed");
        Check.essay(x, "We go.\n\nWe go. We go.", 3);
        Check.due("a PAIR", x.pair(2, 1), 1);
        Check.tape(x, "seven..");
        int[] want = {3, 2, 1, 4, 2, 1, 7, 0, -1, -1, 2, 3, 10, 5, -1, -1};
        for (int what = 0; what < want.length; what++) {
            Check.due("count(" + what + ")", x.count(what), want[what]);
        }
        for (int what : new int[] {-1, -2, -6, -10, 14, 15, 20, 266, Integer.MIN_VALUE, Integer.MIN_VALUE + 10,
            Integer.MAX_VALUE - 10, Integer.MAX_VALUE}) {
            Check.due("count(" + what + ")", x.count(what), -1);
        }
    }

    private static void countRoot() {
        Check.says("7: the ROOT (NONE)");
        EssayBones x = Check.withSigns();
        Check.due("no essay", x.count(7), -1);
        Check.faulty(x, "a", 6, 1);
        Check.due("no essay", x.count(7), -1);
        Check.essay(x, "a.", 1);
        Check.due("one", x.count(7), 0);
        Check.essay(x, "a.".repeat(23) + "so a.", 24);
        Check.due("the last of the most", x.count(7), 23);
        Check.faulty(x, "a", 6, 1);
        Check.due("with a FAULT as it was", x.count(7), 23);
        Check.due("no SIGN any more", Check.sign(x, "so", 0), 3);
        Check.due("the first of rows that cost the same", x.count(7), 0);
    }

    private static void countAfterRefused() {
        Check.says("0: SENTENCES, 1: PARAGRAPHS, 2: STOPS, 3: SIGNS, 4: ENDINGS, 5: PAIRS, 6: bytes of THE TAPE");
        EssayBones x = Check.essay(new EssayBones(), "a. b.\n\nc.", 3);
        Check.due("a PAIR", x.pair(0, 1), 1);
        Check.due("refused", x.pair(1, 0), -2);
        Check.due("refused", Check.stop(x, "*"), -2);
        Check.due("refused", Check.sign(x, "*", 1), -2);
        Check.due("refused", Check.ending(x, "*"), -2);
        Check.due("refused", x.weight(0, 51), -2);
        Check.due("refused", x.move(0, 4), -2);
        Check.due("refused", Check.read(x, "a.b.c.d.\n\ne"), -1);
        Check.due("refused", x.end(1), -1);
        int[] want = {3, 2, 0, 0, 0, 1, 0, 0};
        for (int what = 0; what < want.length; what++) {
            Check.due("count(" + what + ")", x.count(what), want[what]);
        }
    }

    private static EssayBones told() {
        EssayBones x = Check.withSigns();
        Check.essay(x, "Rain helps all. Because rain helps. But roads.\n\nSo rain.", 4);
        x.pair(1, 2);
        x.order(0);
        Check.tape(x, "left. ");
        return x;
    }

    private static void askingChangesNothing() {
        Check.says("Nothing is promised beyond the answers and state changes described above");
        EssayBones x = told();
        for (int i = -1; i <= 4; i++) {
            x.fault(i);
            x.sentence(i, i + 3);
            x.word(i, 0, i);
            x.shared(i, i);
            x.cost(i, i + 1);
            x.finding(i);
            x.marks(101, i, i, i, i);
            x.marks(i, i, i, i, i);
            x.ordered(i);
            x.stands(i);
            x.count(i);
        }
        x.tree();
        x.next();
        Shown.same("asking", x, told());
    }
}
