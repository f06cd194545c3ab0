/** The boundaries of STOPS, SIGNS, ENDINGS, KEYS and WEIGHTS, promises 4 to 7, sentence by sentence. */
public final class TablesEdgesTest {
    private static final String SIXTEEN = "abcdefghijklmnop";
    private static final int[] FAR = {Integer.MIN_VALUE, Integer.MIN_VALUE + 1, -256, 256, Integer.MAX_VALUE};

    public static void main(String[] args) {
        everyByteOfWords();
        lengthsOfWords();
        stopTwice();
        sixtyStops();
        kinds();
        signAgain();
        thirtySigns();
        endingTwice();
        tenEndings();
        refusedLeaveAll();
        threeBytesLeft();
        longestEnding();
        foldedOnce();
        keys();
        firstWordIsSign();
        tablesAsTheyAre();
        weightsBothSides();
        refusedWeights();
        Check.close();
    }

    private static void everyByteOfWords() {
        Check.says("THE TAPE (read) is a word (1 .. 16 bytes of words)");
        for (int b = 0; b < 256; b++) {
            boolean word = "abcdefghijklmnopqrstuvwxyzABCDEFGHIJKLMNOPQRSTUVWXYZ0123456789'".indexOf(b) >= 0;
            String[] texts = {"" + (char) b, (char) b + "b", "b" + (char) b};
            for (String text : texts) {
                EssayBones x = new EssayBones();
                Check.due("stop with " + b, Check.stop(x, text), word ? 1 : -2);
                Check.due("sign with " + b, Check.sign(x, text, 4), word ? 1 : -2);
                Check.due("ending with " + b, Check.ending(x, text), word ? 1 : -2);
                for (int what = 2; what <= 4; what++) {
                    Check.due("count " + what, x.count(what), word ? 1 : 0);
                }
                Check.due("no sign with " + b, Check.sign(x, text, 0), word ? 0 : -2);
            }
        }
    }

    private static void lengthsOfWords() {
        Check.says("RANGE: no word");
        String many = "a".repeat(3000);
        for (int length : new int[] {0, 1, 2, 5, 6, 7, 15, 16, 17, 18, 32, 256, 272, 2999, 3000}) {
            EssayBones x = new EssayBones();
            String text = many.substring(0, length);
            boolean word = length >= 1 && length <= 16;
            Check.due("stop of " + length, Check.stop(x, text), word ? 1 : -2);
            Check.due("sign of " + length, Check.sign(x, text, 1), word ? 1 : -2);
        }
        Check.says("Likewise an ENDING (1 .. 6 bytes)");
        for (int length : new int[] {0, 1, 2, 5, 6, 7, 8, 15, 16, 17, 256, 262, 3000}) {
            EssayBones x = new EssayBones();
            boolean ending = length >= 1 && length <= 6;
            Check.due("ending of " + length, Check.ending(x, many.substring(0, length)), ending ? 1 : -2);
            Check.due("ENDINGS", x.count(4), ending ? 1 : 0);
        }
        EssayBones x = new EssayBones();
        Check.due("a STOP of 16", Check.stop(x, SIXTEEN), 1);
        Check.due("a SIGN of 16", Check.sign(x, "ponmlkjihgfedcba", 2), 1);
        Check.essay(x, "ponmlkjihgfedcba " + SIXTEEN + " " + SIXTEEN.substring(1) + ".", 1);
        Check.due("that SIGN", x.sentence(0, 2), 2);
        Check.due("that STOP", x.sentence(0, 1), 1);
    }

    private static void stopTwice() {
        Check.says("a STOP, or, if it is one, none any more: how many there are");
        EssayBones x = Check.essay(new EssayBones(), "a ab abc b.", 1);
        Check.due("a", Check.stop(x, "a"), 1);
        Check.due("KEYS", x.sentence(0, 1), 3);
        Check.due("ab", Check.stop(x, "ab"), 2);
        Check.due("KEYS", x.sentence(0, 1), 2);
        Check.due("a: none any more", Check.stop(x, "A"), 1);
        Check.due("KEYS", x.sentence(0, 1), 3);
        Check.due("a once more", Check.stop(x, "a"), 2);
        Check.due("ab: none any more", Check.stop(x, "AB"), 1);
        Check.due("a: none any more", Check.stop(x, "a"), 0);
        Check.due("KEYS", x.sentence(0, 1), 4);
        Check.due("STOPS", x.count(2), 0);
    }

    private static String words(String start, int from, int upTo, String behindEach) {
        StringBuilder text = new StringBuilder();
        for (int k = from; k <= upTo; k++) {
            text.append(start).append(k).append(behindEach);
        }
        return text.toString();
    }

    private static void sixtyStops() {
        Check.says("STOPS, at most 60");
        EssayBones x = new EssayBones();
        for (int k = 1; k <= 60; k++) {
            Check.due("stop " + k, Check.stop(x, "w" + k), k);
        }
        Check.due("the 61st", Check.stop(x, "w61"), -3);
        Check.due("STOPS", x.count(2), 60);
        Check.due("no word", Check.stop(x, "w 61"), -2);
        Check.due("no word", x.stop(), -2);
        Check.essay(x, words("w", 1, 40, " ") + "." + words("w", 41, 60, ",") + "." + words("w", 60, 61, " ") + ".", 3);
        Check.due("all of them are STOPS", x.sentence(0, 1), 0);
        Check.due("all of them are STOPS", x.sentence(1, 1), 0);
        Check.due("the refused one is none", x.sentence(2, 1), 1);
        Check.due("one that is there goes when it is full", Check.stop(x, "W60"), 59);
        Check.due("it is a KEY now", x.sentence(2, 1), 2);
        Check.due("room for one", Check.stop(x, "w61"), 60);
        Check.due("for one alone", Check.stop(x, "w60"), -3);
        Check.due("KEYS", x.sentence(2, 1), 1);
        Check.due("the first one goes", Check.stop(x, "w1"), 59);
        Check.due("it alone", x.sentence(0, 1), 1);
        Check.due("KEYS", x.sentence(1, 1), 1);
    }

    private static void kinds() {
        Check.says("RANGE: no word, KIND; FULL.");
        for (int kind = -3; kind <= 7; kind++) {
            EssayBones x = Check.essay(new EssayBones(), "but we.", 1);
            boolean good = kind >= 1 && kind <= 4;
            Check.due("sign of KIND " + kind, Check.sign(x, "but", kind), kind == 0 ? 0 : good ? 1 : -2);
            Check.due("SIGNS", x.count(3), good ? 1 : 0);
            Check.due("KIND", x.sentence(0, 2), good ? kind : 0);
            Check.due("KEYS", x.sentence(0, 1), good ? 1 : 2);
            Check.due("no word", Check.sign(x, "but we", kind), -2);
            Check.due("nothing", Check.sign(x, "", kind), -2);
        }
        EssayBones x = new EssayBones();
        for (int kind : FAR) {
            Check.due("sign of KIND " + kind, Check.sign(x, "but", kind), -2);
            Check.due("SIGNS", x.count(3), 0);
        }
    }

    private static void signAgain() {
        Check.says("(0: none any more): how many there are");
        EssayBones x = Check.essay(new EssayBones(), "but we. so we. but.", 3);
        Check.due("one that is none", Check.sign(x, "but", 0), 0);
        Check.due("but", Check.sign(x, "but", 1), 1);
        Check.due("so", Check.sign(x, "so", 4), 2);
        Check.due("another KIND", Check.sign(x, "BUT", 4), 2);
        Check.due("KIND", x.sentence(0, 2), 4);
        Check.due("the same KIND", Check.sign(x, "but", 4), 2);
        Check.due("KIND", x.sentence(2, 2), 4);
        Check.due("refused", Check.sign(x, "but", 5), -2);
        Check.due("KIND as it was", x.sentence(0, 2), 4);
        Check.due("none any more", Check.sign(x, "But", 0), 1);
        Check.due("KIND", x.sentence(0, 2), 0);
        Check.due("KIND of the other", x.sentence(1, 2), 4);
        Check.due("none any more, again", Check.sign(x, "but", 0), 1);
        Check.due("the last one", Check.sign(x, "so", 0), 0);
        Check.due("KIND", x.sentence(1, 2), 0);
    }

    private static void thirtySigns() {
        Check.says("SIGNS, at most 30");
        EssayBones x = new EssayBones();
        for (int k = 1; k <= 30; k++) {
            Check.due("sign " + k, Check.sign(x, "s" + k, 1 + k % 4), k);
        }
        for (int kind = 1; kind <= 4; kind++) {
            Check.due("the 31st", Check.sign(x, "s31", kind), -3);
        }
        Check.due("no KIND", Check.sign(x, "s31", 5), -2);
        Check.due("no KIND", Check.sign(x, "s31", -1), -2);
        Check.due("no word", Check.sign(x, "s-31", 1), -2);
        Check.due("none any more of none", Check.sign(x, "s31", 0), 30);
        Check.due("SIGNS", x.count(3), 30);
        Check.essay(x, words("s", 1, 15, "."), 15);
        for (int k = 1; k <= 15; k++) {
            Check.due("KIND of s" + k, x.sentence(k - 1, 2), 1 + k % 4);
        }
        Check.essay(x, words("s", 16, 31, ". "), 16);
        for (int k = 16; k <= 31; k++) {
            Check.due("KIND of s" + k, x.sentence(k - 16, 2), k == 31 ? 0 : 1 + k % 4);
        }
        Check.due("another KIND when it is full", Check.sign(x, "s30", 4), 30);
        Check.due("its KIND", x.sentence(14, 2), 4);
        Check.due("one goes", Check.sign(x, "s30", 0), 29);
        Check.due("room for one", Check.sign(x, "s31", 2), 30);
        Check.due("for one alone", Check.sign(x, "s30", 4), -3);
        Check.due("KIND", x.sentence(15, 2), 2);
        Check.due("KIND", x.sentence(14, 2), 0);
    }

    private static void endingTwice() {
        Check.says("or none any more: how many there are. RANGE; FULL.");
        EssayBones x = Check.essay(new EssayBones(), "rains rain rained.", 1);
        Check.due("s", Check.ending(x, "s"), 1);
        Check.due("KEYS", x.sentence(0, 1), 2);
        Check.due("ed", Check.ending(x, "ed"), 2);
        Check.due("KEYS", x.sentence(0, 1), 1);
        Check.due("s: none any more", Check.ending(x, "S"), 1);
        Check.due("KEYS", x.sentence(0, 1), 2);
        Check.due("ed: none any more", Check.ending(x, "ed"), 0);
        Check.due("KEYS", x.sentence(0, 1), 3);
    }

    private static void tenEndings() {
        Check.says("ENDINGS, at most 10, words of 1 .. 6 bytes");
        EssayBones x = new EssayBones();
        for (int k = 0; k < 10; k++) {
            Check.due("ending " + k, Check.ending(x, "e" + k), k + 1);
        }
        Check.due("the 11th", Check.ending(x, "x"), -3);
        Check.due("the 11th of 6", Check.ending(x, "xxxxxx"), -3);
        Check.due("of 7", Check.ending(x, "xxxxxxx"), -2);
        Check.due("of none", x.ending(), -2);
        Check.due("ENDINGS", x.count(4), 10);
        Check.essay(x, "abce0 abce1 abce2 abce3 abce4 abce5 abce6 abce7 abce8 abce9. abcx abc.", 2);
        Check.due("all of them are ENDINGS", x.sentence(0, 1), 1);
        Check.due("the refused one is none", x.sentence(1, 1), 2);
        Check.due("one that is there goes when it is full", Check.ending(x, "E9"), 9);
        Check.due("it is none now", x.sentence(0, 1), 2);
        Check.due("room for one", Check.ending(x, "x"), 10);
        Check.due("KEYS", x.sentence(1, 1), 1);
        Check.due("for one alone", Check.ending(x, "e9"), -3);
        Check.due("KEYS", x.sentence(0, 1), 2);
    }

    private static EssayBones full() {
        EssayBones x = Check.withSigns();
        for (int k = 0; k < 10; k++) {
            Check.ending(x, k == 0 ? "s" : "e" + k);
        }
        Check.stop(x, "the");
        return Check.essay(x, "Rains help. Because the rain helped.\n\nBut the roads. So rain.", 4);
    }

    private static void refusedLeaveAll() {
        Check.says("RANGE; FULL.");
        EssayBones x = full();
        EssayBones y = full();
        Check.due("no word", Check.stop(x, "rain helps"), -2);
        Check.due("too long", Check.stop(x, SIXTEEN + "q"), -2);
        Check.due("no KIND", Check.sign(x, "rains", 5), -2);
        Check.due("no KIND", Check.sign(x, "but", -1), -2);
        Check.due("no word", Check.sign(x, "but.", 0), -2);
        Check.due("no ENDING", Check.ending(x, "ed "), -2);
        Check.due("FULL", Check.ending(x, "ed"), -3);
        Check.due("no WEIGHT", x.weight(4, 1), -2);
        Check.due("no WEIGHT", x.weight(0, 51), -2);
        Shown.same("refused tables", x, y);
    }

    private static void folded(String ending, String word, String bare, boolean isSame) {
        EssayBones x = new EssayBones();
        Check.due("ending " + ending, Check.ending(x, ending), 1);
        Check.essay(x, word + ". " + bare + ".", 2);
        Check.due(word + " and " + bare, x.shared(0, 1), isSame ? 1 : 0);
        Check.due("a KEY", x.sentence(0, 1), 1);
    }

    private static void threeBytesLeft() {
        Check.says("the longest ENDING with which it ends and that leaves 3 bytes or more");
        folded("s", "abcs", "abc", true);
        folded("s", "abs", "ab", false);
        folded("s", "as", "a", false);
        folded("s", "s", "s", true);
        folded("ed", "abced", "abc", true);
        folded("ed", "abed", "ab", false);
        folded("uvwxyz", "abcuvwxyz", "abc", true);
        folded("uvwxyz", "abuvwxyz", "ab", false);
        folded("uvwxyz", "uvwxyz", "uvwxyz", true);
        folded("uvwxyz", "0123456789uvwxyz", "0123456789", true);
        folded("uvwxyz", "vwxyz", "vwxyz", true);
        folded("yz", "z", "z", true);
        folded("ab", "abcab", "abc", true);
        folded("ab", "abcde", "cde", false);
        folded("'s", "dog's", "dog", true);
        folded("7", "abc7", "abc", true);
        // With an ending that does not end it.
        folded("es", "abcs", "abc", false);
        folded("s", "abcst", "abct", false);
    }

    private static EssayBones endings(String... all) {
        EssayBones x = new EssayBones();
        for (int k = 0; k < all.length; k++) {
            Check.due("ending " + all[k], Check.ending(x, all[k]), k + 1);
        }
        return x;
    }

    private static void longestEnding() {
        Check.says("a word without the longest ENDING with which it ends");
        String[][] orders = {{"g", "ng", "ing"}, {"ing", "ng", "g"}, {"ng", "ing", "g"}};
        for (String[] order : orders) {
            EssayBones x = Check.essay(endings(order), "abcing. abc. abci. abcin.", 4);
            Check.due("without ing", x.shared(0, 1), 1);
            Check.due("not without ng", x.shared(0, 2), 0);
            Check.due("not without g", x.shared(0, 3), 0);
            // Here the longest one leaves two bytes.
            Check.essay(x, "abing. abi. ab. abin.", 4);
            Check.due("without ng", x.shared(0, 1), 1);
            Check.due("not without ing", x.shared(0, 2), 0);
            Check.due("not without g", x.shared(0, 3), 0);
            Check.essay(x, "aing. ain. ai. a.", 4);
            Check.due("without g", x.shared(0, 1), 1);
            Check.essay(x, "ing. in. i.", 3);
            Check.due("with all", x.shared(0, 1), 0);
            Check.due("with all", x.shared(0, 2), 0);
        }
    }

    private static void foldedOnce() {
        Check.says("(once)");
        EssayBones x = Check.essay(endings("s"), "abcss. abcs. abc.", 3);
        Check.due("abcss is abcs, abcs is abc", x.shared(0, 1), 0);
        Check.due("abcs is abc", x.shared(1, 2), 1);
        Check.due("abcss isn't abc", x.shared(0, 2), 0);
        EssayBones y = Check.essay(endings("ed", "s"), "abceds. abced. abc.", 3);
        Check.due("abceds is abced, abced is abc", y.shared(0, 1), 0);
        Check.due("abced is abc", y.shared(1, 2), 1);
    }

    private static void keys() {
        Check.says("its FOLDED words, each once, of its words that are no STOPS");
        EssayBones x = endings("s");
        Check.due("a STOP", Check.stop(x, "rain"), 1);
        Check.essay(x, "rain rains rain. corns corn corn CORN. rain. rain corn.", 4);
        Check.due("the word is a STOP, not what is FOLDED", x.sentence(0, 1), 1);
        Check.due("each once", x.sentence(1, 1), 1);
        Check.due("none", x.sentence(2, 1), 0);
        Check.due("KEYS", x.sentence(3, 1), 1);
        Check.due("none that both have", x.shared(0, 2), 0);
        Check.due("none that both have", x.shared(2, 2), 0);
        Check.due("one that both have", x.shared(1, 3), 1);
        Check.due("another STOP", Check.stop(x, "rains"), 2);
        Check.due("none", x.sentence(0, 1), 0);
        EssayBones y = Check.essay(new EssayBones(), words("k", 1, 40, " ") + ".", 1);
        Check.due("40 KEYS", y.sentence(0, 1), 40);
    }

    private static void firstWordIsSign() {
        Check.says("and not the first one if that is a SIGN");
        EssayBones x = endings("s");
        Check.due("a SIGN", Check.sign(x, "but", 2), 1);
        Check.essay(x, "but. but but. we but. buts but. but rain.", 5);
        int[] keys = {0, 1, 2, 1, 1};
        int[] kinds = {2, 2, 0, 0, 2};
        for (int i = 0; i < keys.length; i++) {
            Check.due("KEYS of " + i, x.sentence(i, 1), keys[i]);
            Check.due("KIND of " + i, x.sentence(i, 2), kinds[i]);
        }
        Check.due("behind the first one it is a KEY", x.shared(1, 2), 1);
        Check.due("a STOP too", Check.stop(x, "but"), 1);
        int[] without = {0, 0, 1, 1, 1};
        for (int i = 0; i < keys.length; i++) {
            Check.due("KEYS of " + i, x.sentence(i, 1), without[i]);
            Check.due("KIND of " + i, x.sentence(i, 2), kinds[i]);
        }
        Check.says("KIND of a SENTENCE: by its first word, if it is a SIGN");
        for (int kind = 1; kind <= 4; kind++) {
            Check.due("sign", Check.sign(x, "but", kind), 1);
            Check.due("KIND", x.sentence(0, 2), kind);
            Check.due("else a CLAIM", x.sentence(2, 2), 0);
        }
    }

    private static void tablesAsTheyAre() {
        Check.says("(All by the tables as they are.)");
        EssayBones x = Check.essay(new EssayBones(), "but rains. rain but.", 2);
        Check.due("cost", x.cost(0, 1), 9);
        Check.due("tree", x.tree(), 9);
        Check.due("finding", x.finding(1), 1);
        Check.due("ending", Check.ending(x, "s"), 1);
        Check.due("cost", x.cost(0, 1), 6);
        Check.due("tree", x.tree(), 6);
        Check.due("finding", x.finding(1), 1 | 8);
        Check.due("sign", Check.sign(x, "but", 2), 1);
        Check.due("cost", x.cost(0, 1), 9);
        // 0 leans on what isn't ahead of it, as ROOT or not.
        Check.due("tree", x.tree(), 19);
        Check.due("finding", x.finding(0), 16);
        Check.due("finding", x.finding(1), 1);
        Check.due("stop", Check.stop(x, "rain"), 1);
        Check.due("cost", x.cost(0, 1), 12);
        Check.due("the tables outlive a read", Check.read(x, "but rains rain."), 1);
        Check.due("KEYS", x.sentence(0, 1), 1);
        Check.due("KIND", x.sentence(0, 2), 2);
    }

    private static void weightsBothSides() {
        Check.says("WEIGHT i (0 NEAR, 1 WORDS, 2 SIGNS, 3 PARAS) is v: what it was; RANGE.");
        int[] first = {2, 3, 10, 5};
        EssayBones x = new EssayBones();
        for (int i = 0; i < 4; i++) {
            Check.due("at first", x.count(10 + i), first[i]);
            Check.due("51", x.weight(i, 51), -2);
            Check.due("-1", x.weight(i, -1), -2);
            Check.due("as it was", x.count(10 + i), first[i]);
            Check.due("50", x.weight(i, 50), first[i]);
            Check.due("is 50", x.count(10 + i), 50);
            Check.due("51", x.weight(i, 51), -2);
            Check.due("0", x.weight(i, 0), 50);
            Check.due("is 0", x.count(10 + i), 0);
            Check.due("-1", x.weight(i, -1), -2);
            Check.due("1", x.weight(i, 1), 0);
            Check.due("49", x.weight(i, 49), 1);
            Check.due("its own again", x.weight(i, 49), 49);
            for (int far : FAR) {
                Check.due("far off", x.weight(i, far), -2);
            }
            Check.due("is 49", x.count(10 + i), 49);
        }
        for (int bad : new int[] {-1, 4, 5, 10, 13, Integer.MIN_VALUE, Integer.MAX_VALUE}) {
            Check.due("no WEIGHT " + bad, x.weight(bad, 1), -2);
            Check.due("no WEIGHT " + bad, x.weight(bad, 51), -2);
        }
        for (int i = 0; i < 4; i++) {
            Check.due("as it was", x.count(10 + i), 49);
        }
    }

    private static void refusedWeights() {
        Check.says("WEIGHTS 0 .. 50");
        EssayBones x = Check.withSigns();
        Check.essay(x, "We a. We b.\n\nBecause c.", 3);
        // Two apart, nothing in common, another PARAGRAPH, and 2 is a REASON.
        Check.due("cost", x.cost(2, 0), 2 + 12 + 5);
        Check.due("cost", x.cost(0, 2), 2 + 12 + 5);
        Check.due("refused", x.weight(3, 51), -2);
        Check.due("refused", x.weight(1, -1), -2);
        Check.due("cost", x.cost(0, 2), 2 + 12 + 5);
        Check.weights(x, 50, 50, 50, 50);
        Check.due("the most", x.cost(0, 2), 50 + 200 + 50);
        Check.due("on one behind it", x.cost(2, 1), 200 + 50);
        Check.weights(x, 0, 0, 0, 0);
        Check.due("nothing", x.cost(0, 2), 0);
        Check.due("nothing", x.tree(), 0);
        Check.due("nothing", x.next(), 0);
        Check.weights(x, 0, 0, 50, 0);
        Check.due("a REASON as ROOT", x.next(), 0);
        Check.essay(x, "Because a.", 1);
        Check.due("a REASON as ROOT", x.tree(), 50);
    }
}
