import java.nio.charset.StandardCharsets;
import java.util.List;
import java.util.Random;

/** Runs of calls, the same for each run of the test, on the class and on the slow model. */
public final class ModelTest {
    private static final String[] VOCABULARY = {"a", "the", "rain", "rains", "rained", "raining",
        "corn", "Corn", "cold", "dog", "dogs", "it's", "5", "we", "roads", "road", "bed", "sing"};
    private static final String[] STARTS = {"Because", "but", "Say", "so", "We", "Dogs", "Rain"};
    private static final String[] TAILS = {"s", "ed", "ing", "ds", "n", "ning", "toolong"};
    private static final String[] GAPS = {" ", " ", " ", "\n", "\n\n", " \n \n ", "\n,\n", ", ", "\n\n\n"};

    private final Random random;
    private final EssayBones x = new EssayBones();
    private final Model m = new Model();
    private final String name;
    private final int mostSentences;

    private ModelTest(long seed, int mostSentences) {
        random = new Random(seed);
        name = "seed " + seed + ": ";
        this.mostSentences = mostSentences;
    }

    public static void main(String[] args) {
        for (int seed = 0; seed < 1500; seed++) {
            new ModelTest(seed, seed % 5 == 0 ? 12 : 7).run(60);
        }
        for (int seed = 10000; seed < 10012; seed++) {
            new ModelTest(seed, 24).runWide();
        }
        for (int seed = 20000; seed < 20060; seed++) {
            new ModelTest(seed, 5).runAllTrees();
        }
        Check.close();
    }

    private void run(int calls) {
        for (int k = 0; k < 8; k++) {
            tables();
        }
        if (random.nextInt(10) > 0) {
            essay();
        }
        for (int k = 0; k < calls; k++) {
            step();
        }
        look();
    }

    /** Essays up to the most sentences: trees alone, as orders of the model are slow. */
    private void runWide() {
        for (int k = 0; k < 8; k++) {
            tables();
        }
        essay();
        lookAtTree();
        for (int k = 0; k < 2; k++) {
            same("weight", x.weight(k, 1), m.weight(k, 1));
            int d = pick();
            int e = pick();
            same("move", x.move(d, e), m.move(d, e));
            lookAtTree();
        }
    }

    private void runAllTrees() {
        for (int k = 0; k < 8; k++) {
            tables();
        }
        essay();
        List<Integer> costs = m.allTreeCosts();
        if (x.count(0) > 0) {
            same("least of all trees", x.tree(), costs.get(0));
            same("next of all trees", x.next(), costs.size() > 1 ? costs.get(1) : -1);
        }
    }

    private void same(String call, int got, int want) {
        Check.due(name + call, got, want);
    }

    private int pick() {
        return random.nextInt(x.count(0) + 3) - 1;
    }

    private String of(String[] all) {
        return all[random.nextInt(all.length)];
    }

    private void tape(String text) {
        byte[] bytes = text.getBytes(StandardCharsets.ISO_8859_1);
        same("end(0)", x.end(0), m.end(0));
        for (int p = 0; p < bytes.length; p += 20) {
            int[] f = new int[5];
            for (int k = 0; k < 5; k++) {
                f[k] = Check.four(bytes, p + 4 * k);
            }
            same("feed", x.feed(f[0], f[1], f[2], f[3], f[4]), m.feed(f));
        }
        same("end", x.end(bytes.length), m.end(bytes.length));
    }

    private void tables() {
        switch (random.nextInt(5)) {
            case 0:
                tape(of(VOCABULARY));
                same("stop", x.stop(), m.stop());
                break;
            case 1:
                tape(of(TAILS));
                same("ending", x.ending(), m.ending());
                break;
            default:
                tape(of(STARTS));
                int kind = random.nextInt(7) - 1;
                same("sign", x.sign(kind), m.sign(kind));
        }
    }

    private void essay() {
        StringBuilder text = new StringBuilder();
        int sentences = 1 + random.nextInt(mostSentences);
        for (int s = 0; s < sentences; s++) {
            text.append(of(STARTS));
            int words = random.nextInt(6);
            for (int w = 0; w < words; w++) {
                text.append(random.nextInt(9) == 0 ? ",\n\n" : " ").append(of(VOCABULARY));
            }
            text.append(".!?".charAt(random.nextInt(3))).append(of(GAPS));
        }
        if (random.nextInt(6) == 0) {
            text.setCharAt(random.nextInt(text.length()), (char) random.nextInt(256));
        }
        tape(text.toString());
        same("read", x.read(), m.read());
        same("fault(0)", x.fault(0), m.fault(0));
        same("fault(1)", x.fault(1), m.fault(1));
    }

    private void step() {
        int a = pick();
        int b = pick();
        switch (random.nextInt(16)) {
            case 0: essay(); break;
            case 1: tables(); break;
            case 2:
                int v = random.nextInt(54) - 1;
                same("weight", x.weight(a, v), m.weight(a, v));
                break;
            case 3: case 4: case 5: same("pair", x.pair(a, b), m.pair(a, b)); break;
            case 6: case 7: same("order", x.order(a), m.order(a)); break;
            case 8: same("arrange", x.arrange(a), m.arrange(a)); break;
            case 9: same("move", x.move(a, b), m.move(a, b)); break;
            case 10: same("stands", x.stands(a), m.stands(a)); break;
            case 11: same("finding", x.finding(a), m.finding(a)); break;
            case 12:
                same("marks", x.marks(1, 10, 100, -50, 7 * a), m.marks(1, 10, 100, -50, 7 * a));
                break;
            case 13: same("tree", x.tree(), m.tree()); break;
            case 14: same("next", x.next(), m.next()); break;
            default: same("sentence", x.sentence(a, b), m.sentence(a, b));
        }
    }

    private void lookAtTree() {
        same("tree", x.tree(), m.tree());
        same("next", x.next(), m.next());
        for (int i = -1; i <= x.count(0); i++) {
            for (int what = -1; what <= 8; what++) {
                same("sentence " + i + " " + what, x.sentence(i, what), m.sentence(i, what));
            }
            same("finding " + i, x.finding(i), m.finding(i));
            same("stands " + i, x.stands(i), m.stands(i));
        }
    }

    private void look() {
        lookAtTree();
        for (int what = -2; what < 16; what++) {
            same("count " + what, x.count(what), m.count(what));
        }
        for (int i = -1; i <= x.count(0); i++) {
            same("ordered " + i, x.ordered(i), m.ordered(i));
            for (int j = -1; j <= x.count(0); j++) {
                same("shared", x.shared(i, j), m.shared(i, j));
                same("cost", x.cost(i, j), m.cost(i, j));
                same("word", x.word(i, j, i & 3), m.word(i, j, i & 3));
            }
        }
    }
}
