import java.util.ArrayList;
import java.util.List;

/**
 * All that calls can show of an object, to tell that a refused call has changed nothing. It ends with
 * calls that change the object, so an object is looked at once. For essays of at most 6 sentences, so
 * that an object stays below 512 calls.
 */
final class Shown {
    private final EssayBones x;
    private final List<Integer> all = new ArrayList<>();

    private Shown(EssayBones x) {
        this.x = x;
    }

    static List<Integer> of(EssayBones x) {
        Shown s = new Shown(x);
        s.numbers();
        s.essay();
        s.orders();
        return s.all;
    }

    /** Both objects were made by the same calls; the first one has then been refused something. */
    static void same(String refused, EssayBones x, EssayBones y) {
        List<Integer> got = of(x);
        List<Integer> want = of(y);
        Check.due(refused + ": as many answers", got.size(), want.size());
        for (int k = 0; k < Math.min(got.size(), want.size()); k++) {
            Check.due(refused + " has changed nothing, answer " + k, got.get(k), want.get(k));
        }
    }

    private void numbers() {
        for (int what = 0; what < 14; what++) {
            all.add(x.count(what));
        }
        all.add(x.fault(0));
        all.add(x.fault(1));
        all.add(x.tree());
        all.add(x.next());
        all.add(x.marks(1, 7, 49, -50, 100));
        row();
    }

    private void row() {
        for (int i = 0; i < 7; i++) {
            all.add(x.ordered(i));
        }
    }

    private void essay() {
        int n = x.count(0);
        for (int i = 0; i < n; i++) {
            for (int what = 0; what < 8; what++) {
                all.add(x.sentence(i, what));
            }
            all.add(x.finding(i));
            all.add(x.stands(i));
            all.add(x.word(i, 0, 0));
            for (int j = 0; j < n; j++) {
                all.add(x.shared(i, j));
                all.add(x.cost(i, j));
            }
        }
    }

    private void orders() {
        int n = x.count(0);
        for (int h = 0; h < n; h++) {
            all.add(x.order(h));
            row();
        }
        for (int a = 0; a < n; a++) {
            all.add(x.pair(a, n - 1 - a));
        }
        all.add(x.arrange(0));
        all.add(x.move(0, n));
        for (int i = 0; i < n; i++) {
            all.add(x.sentence(i, 7));
        }
        // What is left on the tape.
        all.add(x.read());
        all.add(x.fault(0));
        all.add(x.fault(1));
    }
}
