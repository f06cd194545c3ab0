/** Promises 4 (stop), 5 (sign), 6 (ending) and 7 (weight). */
public final class TablesTest {
    private static final String SIXTEEN = "abcdefghijklmnop";

    public static void main(String[] args) {
        stops();
        noWords();
        stopsUpToFull();
        signs();
        signsUpToFull();
        endings();
        endingsUpToFull();
        weights();
        Check.close();
    }

    private static void stops() {
        EssayBones x = new EssayBones();
        Check.due("a stop", Check.stop(x, "the"), 1);
        Check.due("the tape is empty", x.count(6), 0);
        Check.due("another", Check.stop(x, "A"), 2);
        Check.due("a third", Check.stop(x, "o'5"), 3);
        Check.read(x, "The dog a the A dogs' o'5 O'5 thes.");
        Check.due("keys without stops", x.sentence(0, 1), 3);
        Check.due("THE is the same: none any more", Check.stop(x, "THE"), 2);
        Check.due("keys by the table as it is", x.sentence(0, 1), 4);
        Check.due("none any more", Check.stop(x, "a"), 1);
        Check.due("keys", x.sentence(0, 1), 5);
        Check.due("and again", Check.stop(x, "a"), 2);
        Check.due("keys", x.sentence(0, 1), 4);
        Check.due("16 bytes", Check.stop(x, SIXTEEN), 3);
        Check.due("stops", x.count(2), 3);
    }

    private static void noWords() {
        String[] bad = {"", " ", "a b", "a.", "a,", "a-b", "abcdefghijklmnopq", "\n", "a\u00e9",
            "@", "[", "`", "{", "/", ":", "a\u0000", "&", "("};
        EssayBones x = new EssayBones();
        for (String text : bad) {
            Check.due("stop of " + text, Check.stop(x, text), -2);
            Check.due("the tape is read", x.count(6), 0);
            Check.due("sign of " + text, Check.sign(x, text, 1), -2);
            Check.due("the tape is read", x.count(6), 0);
            Check.due("no sign of " + text, Check.sign(x, text, 0), -2);
            Check.due("ending of " + text, Check.ending(x, text), -2);
            Check.due("the tape is read", x.count(6), 0);
        }
        Check.due("stops", x.count(2), 0);
        Check.due("signs", x.count(3), 0);
        Check.due("endings", x.count(4), 0);
        String[] good = {"a", "z", "0", "9", "'", "A", "Z"};
        int[] stops = {1, 2, 3, 4, 5, 4, 3};
        for (int k = 0; k < good.length; k++) {
            Check.due("stop of " + good[k], Check.stop(x, good[k]), stops[k]);
        }
    }

    private static void stopsUpToFull() {
        EssayBones x = new EssayBones();
        for (int k = 1; k <= 60; k++) {
            Check.due("stop " + k, Check.stop(x, "w" + k), k);
        }
        Check.due("a 61st", Check.stop(x, "more"), -3);
        Check.due("the tape is read", x.count(6), 0);
        Check.due("no word comes ahead of full", Check.stop(x, "no word"), -2);
        Check.due("stops", x.count(2), 60);
        Check.due("one that is there goes", Check.stop(x, "w1"), 59);
        Check.due("now there is room", Check.stop(x, "more"), 60);
        Check.read(x, "w1 w2 w30 w60 more less.");
        Check.due("keys", x.sentence(0, 1), 2);
    }

    private static void signs() {
        EssayBones x = new EssayBones();
        Check.due("reason", Check.sign(x, "Because", 1), 1);
        Check.due("counter", Check.sign(x, "but", 2), 2);
        Check.due("example", Check.sign(x, "say", 3), 3);
        Check.due("conclusion", Check.sign(x, "so", 4), 4);
        Check.read(x, "BECAUSE we. But we. Say we. So we. We so.");
        for (int i = 0; i < 5; i++) {
            Check.due("kind " + i, x.sentence(i, 2), i < 4 ? i + 1 : 0);
            Check.due("keys " + i, x.sentence(i, 1), i < 4 ? 1 : 2);
        }
        Check.due("kind 5", Check.sign(x, "we", 5), -2);
        Check.due("the tape is read", x.count(6), 0);
        Check.due("kind -1", Check.sign(x, "but", -1), -2);
        Check.due("signs", x.count(3), 4);
        Check.due("another kind for one that is there", Check.sign(x, "BUT", 4), 4);
        Check.due("its kind", x.sentence(1, 2), 4);
        Check.due("the same again stays", Check.sign(x, "but", 4), 4);
        Check.due("its kind", x.sentence(1, 2), 4);
        Check.due("none any more", Check.sign(x, "But", 0), 3);
        Check.due("its kind", x.sentence(1, 2), 0);
        Check.due("its keys", x.sentence(1, 1), 2);
        Check.due("one that is none", Check.sign(x, "but", 0), 3);
        Check.due("others are as they were", x.sentence(2, 2), 3);
        Check.due("others are as they were", x.sentence(3, 2), 4);
        Check.due("a new one", Check.sign(x, "we", 2), 4);
        Check.due("its kind", x.sentence(4, 2), 2);
    }

    private static void signsUpToFull() {
        EssayBones x = new EssayBones();
        for (int k = 1; k <= 30; k++) {
            Check.due("sign " + k, Check.sign(x, "w" + k, 1 + k % 4), k);
        }
        Check.due("a 31st", Check.sign(x, "more", 1), -3);
        Check.due("the tape is read", x.count(6), 0);
        Check.due("its kind comes ahead of full", Check.sign(x, "more", 5), -2);
        Check.due("none any more of none", Check.sign(x, "more", 0), 30);
        Check.due("one that is there", Check.sign(x, "w30", 4), 30);
        Check.due("one goes", Check.sign(x, "w3", 0), 29);
        Check.due("now there is room", Check.sign(x, "more", 2), 30);
        Check.read(x, "w30. w3. more. w29. w2.");
        int[] kinds = {4, 0, 2, 2, 3};
        for (int i = 0; i < kinds.length; i++) {
            Check.due("kind " + i, x.sentence(i, 2), kinds[i]);
        }
    }

    private static void endings() {
        EssayBones x = new EssayBones();
        Check.due("an ending", Check.ending(x, "S"), 1);
        Check.due("another", Check.ending(x, "ed"), 2);
        Check.due("a third", Check.ending(x, "ings"), 3);
        Check.due("six bytes", Check.ending(x, "abcdef"), 4);
        Check.due("seven bytes", Check.ending(x, "abcdefg"), -2);
        Check.due("the tape is read", x.count(6), 0);
        Check.read(x, "rains. Rain. RAINED. rainings. raining. bed. beds. ings. sings. singss.");
        int[] withRain = {1, 1, 1, 1, 0, 0, 0, 0, 0, 0};
        for (int i = 0; i < withRain.length; i++) {
            Check.due("is rain: " + i, x.shared(1, i), withRain[i]);
        }
        Check.due("bed keeps three bytes", x.shared(5, 6), 1);
        Check.due("ings loses s alone, sings too", x.shared(7, 8), 0);
        Check.due("an ending is lost once", x.shared(8, 9), 0);
        Check.due("none any more", Check.ending(x, "ings"), 3);
        Check.due("the next longest then", x.shared(3, 4), 1);
        Check.due("and no more", x.shared(3, 1), 0);
        Check.due("none any more", Check.ending(x, "s"), 2);
        Check.due("nothing is lost", x.shared(0, 1), 0);
        Check.due("but ed", x.shared(1, 2), 1);
        // The longest that leaves enough, not the longest of all.
        EssayBones y = new EssayBones();
        Check.ending(y, "ings");
        Check.ending(y, "gs");
        Check.read(y, "tings. tin. ings. king. kings. ki.");
        Check.due("tings is tin", y.shared(0, 1), 1);
        Check.due("kings is kin", y.shared(4, 3), 0);
        Check.due("ings keeps all", y.sentence(2, 1), 1);
        Check.due("a stop is seen by the whole word", Check.stop(y, "tin"), 1);
        Check.due("so tings has a key", y.sentence(0, 1), 1);
        Check.due("and tin none", y.sentence(1, 1), 0);
    }

    private static void endingsUpToFull() {
        EssayBones x = new EssayBones();
        for (int k = 0; k < 10; k++) {
            Check.due("ending " + k, Check.ending(x, "e" + k), k + 1);
        }
        Check.due("an 11th", Check.ending(x, "more"), -3);
        Check.due("the tape is read", x.count(6), 0);
        Check.due("one goes", Check.ending(x, "E0"), 9);
        Check.due("now there is room", Check.ending(x, "more"), 10);
        Check.due("endings", x.count(4), 10);
        Check.read(x, "abce0 abce9 abc abcmore.");
        Check.due("keys", x.sentence(0, 1), 2);
    }

    private static void weights() {
        EssayBones x = new EssayBones();
        Check.due("near", x.weight(0, 50), 2);
        Check.due("words", x.weight(1, 0), 3);
        Check.due("signs", x.weight(2, 1), 10);
        Check.due("paras", x.weight(3, 49), 5);
        Check.due("near again", x.weight(0, 2), 50);
        Check.due("-1st", x.weight(-1, 2), -2);
        Check.due("fifth", x.weight(4, 2), -2);
        Check.due("below 0", x.weight(0, -1), -2);
        Check.due("above 50", x.weight(0, 51), -2);
        Check.due("far off", x.weight(Integer.MAX_VALUE, Integer.MIN_VALUE), -2);
        Check.due("it is as it was", x.count(10), 2);
        Check.read(x, "A b. C d.\n\nE f. A c.");
        Check.due("words weigh nothing", x.cost(0, 1), 0);
        Check.due("near and paras", x.cost(0, 3), 4 + 49);
        Check.due("weight", x.weight(1, 7), 0);
        Check.due("by the weights as they are", x.cost(0, 3), 4 + 49 + 21);
        Check.due("tree too", x.tree(), 28 + 28 + 72);
    }
}
