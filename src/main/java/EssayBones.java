import java.util.Arrays;

/** A reader of how essays are built; ../shared/DOC.md says what each call promises. */
public final class EssayBones {
    public static final int NONE = -1;
    public static final int RANGE = -2;
    public static final int FULL = -3;

    private static final int TAPE_BYTES = 3000;
    private static final int FEED_BYTES = 20;

    private static final int MOST_SENTENCES = 24;
    private static final int MOST_WORDS = 40;
    private static final int ALL_WORDS = MOST_SENTENCES * MOST_WORDS;
    private static final int WORD_BYTES = 16;
    private static final int GRID = MOST_SENTENCES * MOST_SENTENCES;

    private static final int MOST_STOPS = 60;
    private static final int MOST_SIGNS = 30;
    private static final int MOST_ENDINGS = 10;
    private static final int ENDING_BYTES = 6;
    private static final int LEAST_LEFT = 3;

    private static final int BAD_BYTE = 1;
    private static final int LONG_WORD = 2;
    private static final int LONG_SENTENCE = 3;
    private static final int LONG_ESSAY = 4;
    private static final int BARE_END = 5;
    private static final int NOT_ENDED = 6;

    private static final int CLAIM = 0;
    private static final int REASON = 1;
    private static final int COUNTER = 2;
    private static final int EXAMPLE = 3;
    private static final int CONCLUSION = 4;

    private static final int NEAR = 0;
    private static final int WORDS = 1;
    private static final int SIGNS = 2;
    private static final int PARAS = 3;
    private static final int ALL_WEIGHTS = 4;
    private static final int MOST_WEIGHT = 50;
    private static final int MOST_SHARED = 4;

    private static final int BARE = 1;
    private static final int OPEN = 2;
    private static final int TWICE = 4;
    private static final int STALE = 8;
    private static final int LOOSE = 16;
    private static final int MOST_POINTS = 100;

    private static final int MOST_PAIRS = 20;
    private static final int MOST_HUNG = 9;
    private static final int MOST_UNITS = MOST_HUNG + 1;

    /** Above every cost that can be, and twice it still fits into an int. */
    private static final int UNKNOWN = 1 << 28;

    private final Tape tape;
    private final WordTable stops;
    private final WordTable signs;
    private final WordTable endings;
    private final int[] weights;
    private final Scanner scanner;
    private Text essay;
    private Text draft;
    private final Keys keys;
    private final Places places;
    private final Forest forest;
    private final Bones bones;
    private final Pairs pairs;
    private final Orders orders;
    private boolean keysStale;
    private boolean bonesStale;

    public EssayBones() {
        tape = new Tape();
        stops = new WordTable(MOST_STOPS, WORD_BYTES);
        signs = new WordTable(MOST_SIGNS, WORD_BYTES);
        endings = new WordTable(MOST_ENDINGS, ENDING_BYTES);
        weights = new int[ALL_WEIGHTS];
        weights[NEAR] = 2;
        weights[WORDS] = 3;
        weights[SIGNS] = 10;
        weights[PARAS] = 5;
        scanner = new Scanner();
        essay = new Text();
        draft = new Text();
        keys = new Keys();
        places = new Places();
        forest = new Forest();
        bones = new Bones();
        pairs = new Pairs();
        orders = new Orders();
    }

    public int feed(int a, int b, int c, int d, int e) {
        if (tape.size + FEED_BYTES > TAPE_BYTES) {
            return FULL;
        }
        tape.append(a);
        tape.append(b);
        tape.append(c);
        tape.append(d);
        tape.append(e);
        return tape.size;
    }

    public int end(int n) {
        if (n < 0 || n > tape.size) {
            return NONE;
        }
        tape.size = n;
        return n;
    }

    // ---- tables

    public int stop() {
        return toggle(stops);
    }

    public int sign(int kind) {
        int length = tape.takeWord(WORD_BYTES);
        if (length == 0 || kind < 0 || kind > CONCLUSION) {
            return RANGE;
        }
        int at = signs.find(tape.bytes, 0, length);
        if (kind == 0) {
            signs.drop(at);
        } else if (at >= 0) {
            signs.kinds[at] = kind;
        } else if (signs.isFull()) {
            return FULL;
        } else {
            signs.add(tape.bytes, length, kind);
        }
        keysStale = true;
        return signs.size;
    }

    public int ending() {
        return toggle(endings);
    }

    public int weight(int i, int v) {
        if (i < 0 || i >= ALL_WEIGHTS || v < 0 || v > MOST_WEIGHT) {
            return RANGE;
        }
        int was = weights[i];
        weights[i] = v;
        bonesStale = true;
        return was;
    }

    private int toggle(WordTable table) {
        int length = tape.takeWord(table.longest);
        if (length == 0) {
            return RANGE;
        }
        int at = table.find(tape.bytes, 0, length);
        if (at >= 0) {
            table.drop(at);
        } else if (table.isFull()) {
            return FULL;
        } else {
            table.add(tape.bytes, length, 0);
        }
        keysStale = true;
        return table.size;
    }

    // ---- the essay

    public int read() {
        scanner.scan(tape, draft);
        tape.size = 0;
        if (scanner.faultKind != 0) {
            return NONE;
        }
        // Two texts take turns, so that a fault leaves the essay as it was.
        Text old = essay;
        essay = draft;
        draft = old;
        places.reset(essay.sentences);
        pairs.size = 0;
        keysStale = true;
        return essay.sentences;
    }

    public int fault(int what) {
        if (what == 0) {
            return scanner.faultKind;
        }
        return what == 1 ? scanner.faultPlace : NONE;
    }

    public int sentence(int i, int what) {
        if (isNoSentence(i)) {
            return RANGE;
        }
        refresh();
        int id = places.at[i];
        switch (what) {
            case 0: return essay.wordCount[id];
            case 1: return keys.keyCount[id];
            case 2: return keys.kind[id];
            case 3: return essay.paragraph[i];
            case 4: return bones.head[i];
            case 5: return bones.hung[i];
            case 6: return bones.partSize[i];
            case 7: return id;
            default: return RANGE;
        }
    }

    public int word(int i, int k, int j) {
        if (isNoSentence(i)) {
            return NONE;
        }
        int id = places.at[i];
        if (k < 0 || k >= essay.wordCount[id]) {
            return NONE;
        }
        int w = essay.firstWord[id] + k;
        if (j < 0 || j >= essay.wordLength[w]) {
            return NONE;
        }
        return essay.letters[essay.wordStart[w] + j];
    }

    public int shared(int i, int j) {
        if (isNoSentence(i) || isNoSentence(j)) {
            return RANGE;
        }
        refreshKeys();
        return sharedKeys(i, j);
    }

    private boolean isNoSentence(int i) {
        return i < 0 || i >= essay.sentences;
    }

    private int sharedKeys(int i, int j) {
        return keys.both[places.at[i] * MOST_SENTENCES + places.at[j]];
    }

    private int kindAt(int i) {
        return keys.kind[places.at[i]];
    }

    private void refreshKeys() {
        if (keysStale) {
            keys.gather(essay, stops, signs, endings);
            keysStale = false;
            bonesStale = true;
        }
    }

    // ---- the tree

    public int cost(int h, int d) {
        if (isNoSentence(h) || isNoSentence(d) || h == d) {
            return RANGE;
        }
        refreshKeys();
        return hangCost(h, d);
    }

    public int tree() {
        if (essay.sentences == 0) {
            return NONE;
        }
        refresh();
        return forest.leastCost();
    }

    public int next() {
        if (essay.sentences == 0) {
            return NONE;
        }
        refresh();
        int second = forest.secondCost();
        return second < UNKNOWN ? second : NONE;
    }

    public int finding(int i) {
        if (isNoSentence(i)) {
            return RANGE;
        }
        refresh();
        return findings(i);
    }

    public int marks(int bare, int open, int twice, int stale, int loose) {
        if (isNoPoint(bare) || isNoPoint(open) || isNoPoint(twice)
                || isNoPoint(stale) || isNoPoint(loose)) {
            return RANGE;
        }
        refresh();
        int sum = 0;
        for (int i = 0; i < essay.sentences; i++) {
            int bits = findings(i);
            sum += (bits & BARE) != 0 ? bare : 0;
            sum += (bits & OPEN) != 0 ? open : 0;
            sum += (bits & TWICE) != 0 ? twice : 0;
            sum += (bits & STALE) != 0 ? stale : 0;
            sum += (bits & LOOSE) != 0 ? loose : 0;
        }
        return sum;
    }

    private void refresh() {
        refreshKeys();
        if (bonesStale) {
            growTree();
            bonesStale = false;
        }
    }

    private void growTree() {
        int n = essay.sentences;
        for (int h = 0; h < n; h++) {
            forest.rootCost[h] = isBound(kindAt(h)) ? weights[SIGNS] : 0;
            for (int d = 0; d < n; d++) {
                if (h != d) {
                    forest.hangCost[h * MOST_SENTENCES + d] = hangCost(h, d);
                }
            }
        }
        forest.grow(n);
        for (int d = 0; d < n; d++) {
            bones.head[d] = forest.headOf(d);
        }
        bones.measure(n);
    }

    private int hangCost(int h, int d) {
        int apart = Math.abs(h - d) - 1;
        int lacking = MOST_SHARED - Math.min(MOST_SHARED, sharedKeys(h, d));
        int sum = weights[NEAR] * apart + weights[WORDS] * lacking;
        if (essay.paragraph[h] != essay.paragraph[d]) {
            sum += weights[PARAS];
        }
        if (isAgainstSign(h, d)) {
            sum += weights[SIGNS];
        }
        return sum;
    }

    private boolean isAgainstSign(int h, int d) {
        switch (kindAt(d)) {
            case REASON: return h > d;
            case COUNTER: return h > d;
            case EXAMPLE: return h != d - 1;
            case CONCLUSION: return h < d;
            default: return false;
        }
    }

    /** Of a KIND that leans on something said ahead of it. */
    private static boolean isBound(int kind) {
        return kind == REASON || kind == COUNTER || kind == EXAMPLE;
    }

    private static boolean isNoPoint(int points) {
        return points < -MOST_POINTS || points > MOST_POINTS;
    }

    private int findings(int i) {
        int kind = kindAt(i);
        int bits = 0;
        if ((kind == CLAIM || kind == CONCLUSION) && !hasSupport(i)) {
            bits |= BARE;
        }
        if (kind == COUNTER && bones.hung[i] == 0) {
            bits |= OPEN;
        }
        if (isToldTwice(i)) {
            bits |= TWICE;
        }
        if (keys.isStale(i, places.at)) {
            bits |= STALE;
        }
        if (i == 0 && isBound(kind)) {
            bits |= LOOSE;
        }
        return bits;
    }

    private boolean hasSupport(int i) {
        for (int d = 0; d < essay.sentences; d++) {
            int kind = kindAt(d);
            if (bones.head[d] == i && (kind == REASON || kind == EXAMPLE)) {
                return true;
            }
        }
        return false;
    }

    private boolean isToldTwice(int i) {
        int has = keys.keyCount[places.at[i]];
        int head = bones.head[i];
        if (head == NONE || has == 0) {
            return false;
        }
        for (int earlier = 0; earlier < i; earlier++) {
            if (bones.head[earlier] == head && 2 * sharedKeys(earlier, i) >= has) {
                return true;
            }
        }
        return false;
    }

    // ---- orders

    public int pair(int a, int b) {
        if (isNoSentence(a) || isNoSentence(b) || a == b) {
            return RANGE;
        }
        int first = places.at[a];
        int second = places.at[b];
        if (pairs.mustBeAhead(second, first)) {
            return RANGE;
        }
        if (pairs.has(first, second)) {
            return pairs.size;
        }
        if (pairs.size >= MOST_PAIRS) {
            return FULL;
        }
        pairs.add(first, second);
        return pairs.size;
    }

    public int order(int h) {
        if (isNoSentence(h)) {
            return RANGE;
        }
        refresh();
        int least = findOrder(h);
        if (least >= 0) {
            orders.keepRow();
        }
        return least;
    }

    public int ordered(int i) {
        return i < 0 || i >= orders.toldSize ? NONE : orders.told[i];
    }

    public int stands(int h) {
        if (isNoSentence(h)) {
            return RANGE;
        }
        refresh();
        int sum = 0;
        for (int d = 0; d < essay.sentences; d++) {
            if (bones.head[d] == h) {
                sum += Math.abs(h - d);
            }
        }
        return sum;
    }

    public int arrange(int h) {
        if (isNoSentence(h)) {
            return RANGE;
        }
        refresh();
        if (findOrder(h) < 0) {
            return NONE;
        }
        places.start(bones.partFirst[h]);
        for (int k = 0; k < orders.units; k++) {
            int u = orders.row[k];
            places.put(orders.first[u], orders.size[u]);
        }
        bonesStale = true;
        return places.take();
    }

    public int move(int d, int e) {
        int n = essay.sentences;
        if (isNoSentence(d) || e < 0 || e > n) {
            return RANGE;
        }
        refresh();
        int first = bones.partFirst[d];
        int behind = first + bones.partSize[d];
        if (e >= first && e < behind) {
            return RANGE;
        }
        if (e < first) {
            places.start(e);
            places.put(first, behind - first);
            places.put(e, first - e);
        } else {
            places.start(first);
            places.put(behind, e - behind);
            places.put(first, behind - first);
        }
        bonesStale = true;
        return places.take();
    }

    public int count(int what) {
        switch (what) {
            case 0: return essay.sentences;
            case 1: return essay.paragraphs();
            case 2: return stops.size;
            case 3: return signs.size;
            case 4: return endings.size;
            case 5: return pairs.size;
            case 6: return tape.size;
            case 7: return rootPlace();
            default: return what >= 10 && what < 10 + ALL_WEIGHTS ? weights[what - 10] : NONE;
        }
    }

    private int rootPlace() {
        if (essay.sentences == 0) {
            return NONE;
        }
        refresh();
        return bones.root;
    }

    /** The cost of the cheapest order of h, its row left in orders; or NONE. */
    private int findOrder(int h) {
        if (bones.hung[h] > MOST_HUNG) {
            return NONE;
        }
        orders.clear();
        for (int d = 0; d < essay.sentences; d++) {
            if (d == h) {
                orders.addHead(h);
            } else if (bones.head[d] == h) {
                orders.addPart(d, bones.partFirst[d], bones.partSize[d]);
            }
        }
        bindUnits(h);
        return orders.solve() ? orders.leastCost() : NONE;
    }

    private void bindUnits(int h) {
        for (int u = 0; u < orders.units; u++) {
            int s = orders.sentence[u];
            if (s != h && isBound(kindAt(s))) {
                orders.bind(h, s);
            }
        }
        for (int p = 0; p < pairs.size; p++) {
            orders.bind(places.placeOf(pairs.first[p]), places.placeOf(pairs.second[p]));
        }
    }

    /** The bytes that are fed; a call that takes them leaves it empty. */
    private static final class Tape {
        private final int[] bytes = new int[TAPE_BYTES];
        private int size;

        private void append(int four) {
            for (int shift = 24; shift >= 0; shift -= 8) {
                if (size < TAPE_BYTES) {
                    bytes[size] = (four >>> shift) & 255;
                    size++;
                }
            }
        }

        /** Empties the tape: its length if it was a word, now in small letters; else 0. */
        private int takeWord(int longest) {
            int length = size;
            size = 0;
            if (length > longest || length > TAPE_BYTES) {
                return 0;
            }
            for (int p = 0; p < length; p++) {
                bytes[p] = smallLetter(bytes[p]);
                if (!isOfWords(bytes[p])) {
                    return 0;
                }
            }
            return length;
        }
    }

    private static int smallLetter(int b) {
        return b >= 'A' && b <= 'Z' ? b + 32 : b;
    }

    /** Whether b, a small letter if it is a letter, may stand in a word. */
    private static boolean isOfWords(int b) {
        return b >= 'a' && b <= 'z' || b >= '0' && b <= '9' || b == '\'';
    }

    /** A table of at most so many words, each once, in small letters. */
    private static final class WordTable {
        private final int most;
        private final int longest;
        private final int[] bytes;
        private final int[] lengths;
        private final int[] kinds;
        private int size;

        private WordTable(int most, int longest) {
            this.most = most;
            this.longest = longest;
            bytes = new int[most * longest];
            lengths = new int[most];
            kinds = new int[most];
        }

        private boolean isFull() {
            return size >= most;
        }

        private int find(int[] source, int start, int length) {
            for (int i = 0; i < size; i++) {
                if (lengths[i] == length && isAt(i, source, start)) {
                    return i;
                }
            }
            return NONE;
        }

        /** Whether word i stands in the source from start on; the caller has seen that it fits. */
        private boolean isAt(int i, int[] source, int start) {
            int from = i * longest;
            for (int p = 0; p < lengths[i]; p++) {
                if (bytes[from + p] != source[start + p]) {
                    return false;
                }
            }
            return true;
        }

        private void add(int[] source, int length, int kind) {
            if (size < most && length <= longest) {
                System.arraycopy(source, 0, bytes, size * longest, length);
                lengths[size] = length;
                kinds[size] = kind;
                size++;
            }
        }

        /** The last word takes the place of the dropped one: no answer depends on their order. */
        private void drop(int i) {
            if (i >= 0 && i < size) {
                size--;
                System.arraycopy(bytes, size * longest, bytes, i * longest, longest);
                lengths[i] = lengths[size];
                kinds[i] = kinds[size];
            }
        }

        /** How many bytes a word has without the longest of these that it can lose. */
        private int lengthWithout(int[] source, int start, int length) {
            int lost = 0;
            for (int i = 0; i < size; i++) {
                int left = length - lengths[i];
                if (lengths[i] > lost && left >= LEAST_LEFT && isAt(i, source, start + left)) {
                    lost = lengths[i];
                }
            }
            return length - lost;
        }
    }

    /** An essay as it was read: all but the paragraphs goes by which sentence it was then. */
    private static final class Text {
        private final int[] letters = new int[TAPE_BYTES];
        private final int[] wordStart = new int[ALL_WORDS];
        private final int[] wordLength = new int[ALL_WORDS];
        private final int[] firstWord = new int[MOST_SENTENCES];
        private final int[] wordCount = new int[MOST_SENTENCES];
        /** By place: paragraphs stay where they are when sentences move. */
        private final int[] paragraph = new int[MOST_SENTENCES];
        private int words;
        private int sentences;

        private int paragraphs() {
            return sentences == 0 ? 0 : paragraph[sentences - 1] + 1;
        }
    }

    /** Reads a tape into a text, byte by byte, up to the first fault. */
    private static final class Scanner {
        private int faultKind;
        private int faultPlace = NONE;
        private boolean inWord;
        private boolean inSentence;
        private boolean lineEnded;
        private boolean breakDue;
        private int paragraph;

        private void scan(Tape tape, Text text) {
            clear(text);
            for (int p = 0; p < tape.size && faultKind == 0; p++) {
                int b = smallLetter(tape.bytes[p]);
                text.letters[p] = b;
                if (isOfWords(b)) {
                    takeLetter(text, p);
                } else {
                    inWord = false;
                    takeMark(text, p, b);
                }
            }
            if (faultKind == 0 && (inSentence || text.sentences == 0)) {
                note(NOT_ENDED, tape.size);
            }
        }

        private void clear(Text text) {
            faultKind = 0;
            faultPlace = NONE;
            inWord = false;
            inSentence = false;
            lineEnded = false;
            breakDue = false;
            paragraph = 0;
            text.words = 0;
            text.sentences = 0;
        }

        private void note(int kind, int place) {
            faultKind = kind;
            faultPlace = place;
        }

        private void takeLetter(Text text, int p) {
            if (!inWord) {
                startWord(text, p);
            } else if (text.wordLength[text.words - 1] >= WORD_BYTES) {
                note(LONG_WORD, p);
            } else {
                text.wordLength[text.words - 1]++;
            }
        }

        private void startWord(Text text, int p) {
            if (!inSentence) {
                startSentence(text, p);
            } else if (text.wordCount[text.sentences - 1] >= MOST_WORDS) {
                note(LONG_SENTENCE, p);
            }
            if (faultKind == 0) {
                inWord = true;
                text.wordStart[text.words] = p;
                text.wordLength[text.words] = 1;
                text.words++;
                text.wordCount[text.sentences - 1]++;
            }
        }

        private void startSentence(Text text, int p) {
            if (text.sentences >= MOST_SENTENCES) {
                note(LONG_ESSAY, p);
                return;
            }
            if (breakDue) {
                paragraph++;
            }
            breakDue = false;
            lineEnded = false;
            inSentence = true;
            text.firstWord[text.sentences] = text.words;
            text.wordCount[text.sentences] = 0;
            text.paragraph[text.sentences] = paragraph;
            text.sentences++;
        }

        private void takeMark(Text text, int p, int b) {
            switch (b) {
                case ' ':
                    break;
                case '\n':
                    takeLineEnd(text);
                    break;
                case ',': case ';': case ':':
                    lineEnded = false;
                    break;
                case '.': case '!': case '?':
                    takeSentenceEnd(p);
                    break;
                default:
                    note(BAD_BYTE, p);
            }
        }

        private void takeLineEnd(Text text) {
            if (!inSentence && text.sentences > 0) {
                breakDue = breakDue || lineEnded;
                lineEnded = true;
            }
        }

        private void takeSentenceEnd(int p) {
            if (!inSentence) {
                note(BARE_END, p);
            }
            inSentence = false;
        }
    }

    /** Kinds and keys of the sentences, by which one each was in the text that was read. */
    private static final class Keys {
        private static final int LONGS = ALL_WORDS / 64;
        private static final int BUCKETS = 256;

        private final int[] kind = new int[MOST_SENTENCES];
        private final int[] keyCount = new int[MOST_SENTENCES];
        private final int[] both = new int[GRID];
        /** A bit for each key of the essay, so many longs for each sentence. */
        private final long[] bits = new long[MOST_SENTENCES * LONGS];
        private final int[] keyStart = new int[ALL_WORDS];
        private final int[] keyLength = new int[ALL_WORDS];
        private final int[] sameBucket = new int[ALL_WORDS];
        private final int[] buckets = new int[BUCKETS];
        private int total;

        private void gather(Text text, WordTable stops, WordTable signs, WordTable endings) {
            total = 0;
            Arrays.fill(bits, 0L);
            Arrays.fill(buckets, NONE);
            for (int s = 0; s < text.sentences; s++) {
                int w = text.firstWord[s];
                int sign = signs.find(text.letters, text.wordStart[w], text.wordLength[w]);
                kind[s] = sign >= 0 ? signs.kinds[sign] : CLAIM;
                for (int k = sign >= 0 ? 1 : 0; k < text.wordCount[s]; k++) {
                    takeWord(text, s, w + k, stops, endings);
                }
            }
            compare(text.sentences);
        }

        private void takeWord(Text text, int s, int w, WordTable stops, WordTable endings) {
            int start = text.wordStart[w];
            int length = text.wordLength[w];
            if (stops.find(text.letters, start, length) < 0) {
                int left = endings.lengthWithout(text.letters, start, length);
                int key = keyOf(text.letters, start, left);
                if (key >= 0) {
                    bits[s * LONGS + key / 64] |= 1L << key % 64;
                }
            }
        }

        private int keyOf(int[] letters, int start, int length) {
            int hash = 0;
            for (int p = 0; p < length; p++) {
                hash = hash * 31 + letters[start + p];
            }
            int bucket = (hash ^ hash >>> 8) & (BUCKETS - 1);
            int key = buckets[bucket];
            for (int tries = 0; tries < total && key >= 0; tries++) {
                if (keyLength[key] == length && isSame(letters, keyStart[key], start, length)) {
                    return key;
                }
                key = sameBucket[key];
            }
            return addKey(start, length, bucket);
        }

        private int addKey(int start, int length, int bucket) {
            if (total >= ALL_WORDS) {
                return NONE;
            }
            keyStart[total] = start;
            keyLength[total] = length;
            sameBucket[total] = buckets[bucket];
            buckets[bucket] = total;
            total++;
            return total - 1;
        }

        private static boolean isSame(int[] letters, int a, int b, int length) {
            for (int p = 0; p < length; p++) {
                if (letters[a + p] != letters[b + p]) {
                    return false;
                }
            }
            return true;
        }

        private int longsUsed() {
            return (total + 63) / 64;
        }

        private void compare(int sentences) {
            int used = longsUsed();
            for (int i = 0; i < sentences; i++) {
                for (int j = 0; j <= i; j++) {
                    int sum = 0;
                    for (int k = 0; k < used; k++) {
                        sum += Long.bitCount(bits[i * LONGS + k] & bits[j * LONGS + k]);
                    }
                    both[i * MOST_SENTENCES + j] = sum;
                    both[j * MOST_SENTENCES + i] = sum;
                }
                keyCount[i] = both[i * MOST_SENTENCES + i];
            }
        }

        /** Whether the one at this place has keys, each of them one of those ahead of it. */
        private boolean isStale(int place, int[] at) {
            int id = at[place];
            int used = longsUsed();
            for (int k = 0; k < used; k++) {
                long fresh = bits[id * LONGS + k];
                for (int earlier = 0; earlier < place; earlier++) {
                    fresh &= ~bits[at[earlier] * LONGS + k];
                }
                if (fresh != 0L) {
                    return false;
                }
            }
            return keyCount[id] > 0;
        }
    }

    /** Which sentence of the text that was read stands at each place now. */
    private static final class Places {
        private final int[] at = new int[MOST_SENTENCES];
        private final int[] then = new int[MOST_SENTENCES];
        private int size;
        private int filled;

        private void reset(int sentences) {
            size = Math.min(sentences, MOST_SENTENCES);
            for (int i = 0; i < size; i++) {
                at[i] = i;
            }
        }

        private int placeOf(int id) {
            for (int i = 0; i < size; i++) {
                if (at[i] == id) {
                    return i;
                }
            }
            return NONE;
        }

        /** Begins a new arrangement that leaves what stands ahead of this place. */
        private void start(int place) {
            System.arraycopy(at, 0, then, 0, size);
            filled = place;
        }

        /** Those that stand from first on come next in the new arrangement. */
        private void put(int first, int many) {
            for (int k = 0; k < many; k++) {
                if (filled >= 0 && filled < size && first >= 0 && first + k < size) {
                    then[filled] = at[first + k];
                    filled++;
                }
            }
        }

        /** Makes the new arrangement the one that holds: how many stand elsewhere. */
        private int take() {
            int elsewhere = 0;
            for (int i = 0; i < size; i++) {
                if (at[i] != then[i]) {
                    elsewhere++;
                }
                at[i] = then[i];
            }
            return elsewhere;
        }
    }

    /**
     * The cheapest tree and the cost of the next one, over spans that grow. A tree whose parts
     * stand side by side is made of spans in one way only: a SIDE (a head and all that hangs on it
     * up to an end, on one side of it), and a GAP (two sides that meet, of two heads at its ends),
     * so that two ways to fill a span are always two trees.
     */
    private static final class Forest {
        private static final int SIDE = 0;
        private static final int GAP = GRID;
        private static final int WHOLE = 2 * GRID;
        private static final int CELLS = WHOLE + 1;
        private static final int HALF = MOST_SENTENCES / 2;
        private static final int HEAD_BITS = 5;

        private final int[] hangCost = new int[GRID];
        private final int[] rootCost = new int[MOST_SENTENCES];
        private final int[] least = new int[CELLS];
        private final int[] second = new int[CELLS];
        /**
         * The row of heads of the least one, five bits each, head + 1: those of sentences 0 to 11,
         * then of 12 to 23, the first one highest. Of rows that cost the same, the smaller numbers
         * are the row that comes first; and rows of two spans are put together by adding.
         */
        private final long[] earlyHeads = new long[CELLS];
        private final long[] lateHeads = new long[CELLS];

        private void grow(int n) {
            if (n < 1 || n > MOST_SENTENCES) {
                return;
            }
            for (int i = 0; i < n; i++) {
                setAlone(side(i, i));
            }
            for (int wide = 1; wide < n; wide++) {
                for (int i = 0; i + wide < n; i++) {
                    fillSpan(i, i + wide);
                }
            }
            setEmpty(WHOLE);
            for (int r = 0; r < n; r++) {
                offer(WHOLE, side(r, 0), side(r, n - 1), rootCost[r], NONE, r);
            }
        }

        private void fillSpan(int i, int j) {
            int gap = gap(i, j);
            setEmpty(gap);
            for (int k = i; k < j; k++) {
                offer(gap, side(i, k), side(j, k + 1), 0, NONE, i);
            }
            int behind = side(i, j);
            setEmpty(behind);
            for (int d = i + 1; d <= j; d++) {
                int price = hangCost[i * MOST_SENTENCES + d];
                offer(behind, gap(i, d), side(d, j), price, i, d);
            }
            int ahead = side(j, i);
            setEmpty(ahead);
            for (int d = i; d < j; d++) {
                int price = hangCost[j * MOST_SENTENCES + d];
                offer(ahead, side(d, i), gap(d, j), price, j, d);
            }
        }

        private static int side(int head, int end) {
            return SIDE + head * MOST_SENTENCES + end;
        }

        private static int gap(int i, int j) {
            return GAP + i * MOST_SENTENCES + j;
        }

        private void setAlone(int cell) {
            setEmpty(cell);
            least[cell] = 0;
        }

        private void setEmpty(int cell) {
            least[cell] = UNKNOWN;
            second[cell] = UNKNOWN;
            earlyHeads[cell] = 0L;
            lateHeads[cell] = 0L;
        }

        /** A way to fill a cell: cells a and b and, at that price, d hung on h (NONE: no hanging). */
        private void offer(int cell, int a, int b, int price, int h, int d) {
            int cheapest = least[a] + least[b] + price;
            long early = earlyHeads[a] + earlyHeads[b];
            long late = lateHeads[a] + lateHeads[b];
            if (d < HALF) {
                early += (h + 1L) << HEAD_BITS * (HALF - 1 - d);
            } else {
                late += (h + 1L) << HEAD_BITS * (MOST_SENTENCES - 1 - d);
            }
            if (comesFirst(cell, cheapest, early, late)) {
                int other = Math.min(least[a] + second[b], second[a] + least[b]) + price;
                second[cell] = Math.min(least[cell], other);
                least[cell] = cheapest;
                earlyHeads[cell] = early;
                lateHeads[cell] = late;
            } else {
                second[cell] = Math.min(second[cell], cheapest);
            }
        }

        private boolean comesFirst(int cell, int cheapest, long early, long late) {
            if (cheapest != least[cell]) {
                return cheapest < least[cell];
            }
            if (early != earlyHeads[cell]) {
                return early < earlyHeads[cell];
            }
            return late < lateHeads[cell];
        }

        private int leastCost() {
            return least[WHOLE];
        }

        private int secondCost() {
            return second[WHOLE];
        }

        private int headOf(int d) {
            long heads = d < HALF
                    ? earlyHeads[WHOLE] >>> HEAD_BITS * (HALF - 1 - d)
                    : lateHeads[WHOLE] >>> HEAD_BITS * (MOST_SENTENCES - 1 - d);
            return (int) (heads & 31L) - 1;
        }
    }

    /** The tree as it is found, by place. */
    private static final class Bones {
        private final int[] head = new int[MOST_SENTENCES];
        private final int[] hung = new int[MOST_SENTENCES];
        private final int[] partFirst = new int[MOST_SENTENCES];
        private final int[] partSize = new int[MOST_SENTENCES];
        private int root = NONE;

        /** From the heads, what else is asked of the tree. */
        private void measure(int n) {
            root = NONE;
            for (int i = 0; i < n; i++) {
                hung[i] = 0;
                partFirst[i] = i;
                partSize[i] = 0;
            }
            for (int d = 0; d < n; d++) {
                int h = head[d];
                if (h >= 0 && h < n) {
                    hung[h]++;
                } else {
                    root = d;
                }
                countUpwards(d, n);
            }
        }

        private void countUpwards(int d, int n) {
            int up = d;
            for (int steps = 0; steps < n && up >= 0 && up < n; steps++) {
                partSize[up]++;
                partFirst[up] = Math.min(partFirst[up], d);
                up = head[up];
            }
        }
    }

    /** Pairs that are told, by which sentence each was in the text that was read. */
    private static final class Pairs {
        private final int[] first = new int[MOST_PAIRS];
        private final int[] second = new int[MOST_PAIRS];
        private int size;

        private boolean has(int a, int b) {
            for (int p = 0; p < size; p++) {
                if (first[p] == a && second[p] == b) {
                    return true;
                }
            }
            return false;
        }

        private void add(int a, int b) {
            if (size < MOST_PAIRS) {
                first[size] = a;
                second[size] = b;
                size++;
            }
        }

        /** Whether a must stand ahead of b, through others too. */
        private boolean mustBeAhead(int a, int b) {
            int behind = 1 << a;
            // A way through the pairs is no longer than there are pairs.
            for (int round = 0; round < size; round++) {
                for (int p = 0; p < size; p++) {
                    if ((behind >> first[p] & 1) != 0) {
                        behind |= 1 << second[p];
                    }
                }
            }
            return (behind >> b & 1) != 0;
        }
    }

    /**
     * The cheapest order of a head and the parts that hang on it (its units), over sets of those
     * that already stand. What a unit adds to the sum of distances goes by that set alone.
     */
    private static final class Orders {
        private static final int SETS = 1 << MOST_UNITS;

        private final int[] sentence = new int[MOST_UNITS];
        private final int[] first = new int[MOST_UNITS];
        private final int[] size = new int[MOST_UNITS];
        private final int[] ahead = new int[MOST_UNITS];
        private final int[] restCost = new int[SETS];
        private final int[] row = new int[MOST_UNITS];
        private final int[] told = new int[MOST_UNITS];
        private int toldSize;
        private int units;
        private int headUnit;

        private void clear() {
            units = 0;
            headUnit = 0;
        }

        private void addHead(int h) {
            headUnit = units;
            addPart(h, h, 1);
        }

        private void addPart(int s, int partFirst, int partSize) {
            if (units < MOST_UNITS) {
                sentence[units] = s;
                first[units] = partFirst;
                size[units] = partSize;
                ahead[units] = 0;
                units++;
            }
        }

        /** The unit of place a must stand ahead of that of b, if both are in two of them. */
        private void bind(int a, int b) {
            int unitA = unitOf(a);
            int unitB = unitOf(b);
            if (unitA >= 0 && unitB >= 0 && unitA != unitB) {
                ahead[unitB] |= 1 << unitA;
            }
        }

        private int unitOf(int place) {
            for (int u = 0; u < units; u++) {
                if (place >= first[u] && place < first[u] + size[u]) {
                    return u;
                }
            }
            return NONE;
        }

        /** Finds the row that costs least and, of those, comes first: whether there is one. */
        private boolean solve() {
            int all = (1 << units) - 1;
            restCost[all] = 0;
            for (int set = all - 1; set >= 0; set--) {
                restCost[set] = UNKNOWN;
                for (int u = 0; u < units; u++) {
                    if (mayCome(u, set)) {
                        restCost[set] = Math.min(restCost[set], costWith(u, set));
                    }
                }
            }
            if (restCost[0] >= UNKNOWN) {
                return false;
            }
            chooseRow();
            return true;
        }

        /** Units are in the order of their sentences: the first that fits makes the first row. */
        private void chooseRow() {
            int set = 0;
            for (int k = 0; k < units; k++) {
                int u = 0;
                while (u < units - 1 && !(mayCome(u, set) && costWith(u, set) == restCost[set])) {
                    u++;
                }
                row[k] = u;
                set |= 1 << u;
            }
        }

        private boolean mayCome(int u, int set) {
            return (set >> u & 1) == 0 && (ahead[u] & ~set) == 0;
        }

        /** What the rest costs from this set on when unit u comes next. */
        private int costWith(int u, int set) {
            return Math.min(UNKNOWN, stepCost(u, set) + restCost[set | 1 << u]);
        }

        /** What u adds: to its own distance from the head, and to those that it stands between. */
        private int stepCost(int u, int set) {
            if (u == headUnit) {
                return 0;
            }
            int standing = Integer.bitCount(set);
            int offset = sentence[u] - first[u];
            if ((set >> headUnit & 1) == 0) {
                return size[u] - offset + size[u] * standing;
            }
            return offset + 1 + size[u] * (units - standing - 1);
        }

        private int leastCost() {
            return restCost[0];
        }

        private void keepRow() {
            for (int k = 0; k < units; k++) {
                told[k] = sentence[row[k]];
            }
            toldSize = units;
        }
    }
}
