import java.nio.charset.StandardCharsets;

/** What the tests share: counting answers that are not due, and feeding texts. */
final class Check {
    private static int wrong = 0;
    private static int asked = 0;
    private static String quoted = "";

    private Check() {
    }

    /** The sentence of the document that the next answers belong to. */
    static void says(String sentence) {
        quoted = "[" + sentence + "] ";
    }

    static void due(String what, long got, long want) {
        asked++;
        if (got != want) {
            wrong++;
            System.out.println(quoted + what + " answered " + got + ", due is " + want);
        }
    }

    static void isTrue(String what, boolean holds) {
        due(what, holds ? 1 : 0, 1);
    }

    /** Ends the test: exit code 1 if an answer was not due. */
    static void close() {
        System.out.println(asked + " answers, " + wrong + " not as due");
        if (wrong != 0 || asked == 0) {
            System.exit(1);
        }
    }

    /** Puts the text on an empty tape; its bytes are the low ones of its characters. */
    static void tape(EssayBones x, String text) {
        byte[] bytes = text.getBytes(StandardCharsets.ISO_8859_1);
        due("end(0)", x.end(0), 0);
        for (int p = 0; p < bytes.length; p += 20) {
            x.feed(four(bytes, p), four(bytes, p + 4), four(bytes, p + 8),
                    four(bytes, p + 12), four(bytes, p + 16));
        }
        due("end of a text", x.end(bytes.length), bytes.length);
    }

    static int four(byte[] bytes, int from) {
        int all = 0;
        for (int p = from; p < from + 4; p++) {
            all = all << 8 | (p < bytes.length ? bytes[p] & 255 : ' ');
        }
        return all;
    }

    static int stop(EssayBones x, String word) {
        tape(x, word);
        return x.stop();
    }

    static int sign(EssayBones x, String word, int kind) {
        tape(x, word);
        return x.sign(kind);
    }

    static int ending(EssayBones x, String word) {
        tape(x, word);
        return x.ending();
    }

    static int read(EssayBones x, String text) {
        tape(x, text);
        return x.read();
    }

    /** A new object that knows a sign of each kind. */
    static EssayBones withSigns() {
        EssayBones x = new EssayBones();
        due("sign 1", sign(x, "because", 1), 1);
        due("sign 2", sign(x, "but", 2), 2);
        due("sign 3", sign(x, "say", 3), 3);
        due("sign 4", sign(x, "so", 4), 4);
        return x;
    }

    /** The text is read without a fault, as so many sentences. */
    static EssayBones essay(EssayBones x, String text, int sentences) {
        due("read " + text, read(x, text), sentences);
        due("fault of " + text, x.fault(0), 0);
        return x;
    }

    /** A read that finds this fault. */
    static void faulty(EssayBones x, String text, int kind, int place) {
        String name = text.length() > 60 ? text.substring(0, 60) + ".." : text;
        due("read " + name, read(x, text), EssayBones.NONE);
        due("kind of the fault of " + name, x.fault(0), kind);
        due("place of the fault of " + name, x.fault(1), place);
    }

    /** WEIGHTS NEAR, WORDS, SIGNS, PARAS. */
    static void weights(EssayBones x, int... all) {
        for (int i = 0; i < all.length; i++) {
            isTrue("weight " + i + " is " + all[i], x.weight(i, all[i]) >= 0);
        }
    }

    /** Heads of all sentences, as sentence(i, 4) tells them. */
    static void heads(String what, EssayBones x, int... want) {
        due(what + ": sentences", x.count(0), want.length);
        for (int i = 0; i < want.length; i++) {
            due(what + ": head of " + i, x.sentence(i, 4), want[i]);
        }
    }

    /** Where sentences were in the text that was read. */
    static void were(String what, EssayBones x, int... want) {
        due(what + ": sentences", x.count(0), want.length);
        for (int i = 0; i < want.length; i++) {
            due(what + ": place of " + i, x.sentence(i, 7), want[i]);
        }
    }

    static void row(String what, EssayBones x, int... want) {
        for (int i = 0; i < want.length; i++) {
            due(what + ": ordered " + i, x.ordered(i), want[i]);
        }
        due(what + ": ordered behind the last", x.ordered(want.length), EssayBones.NONE);
        due(what + ": ordered ahead of the first", x.ordered(-1), EssayBones.NONE);
    }
}
