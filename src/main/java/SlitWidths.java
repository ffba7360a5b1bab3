import java.util.Arrays;

/**
 * Slitting coils: wanted widths, patterns by exact search, set-ups of knives, their order with the
 * fewest knife moves, shifting so that defects miss all strips, and weights of strips.
 *
 * <p>Widths and places are tenths of a millimetre, places from the left edge on.
 */
public final class SlitWidths {
    private static final int MAX_WIDTH = 20_000;
    private static final int MAX_KILOS = 50_000;
    private static final int MAX_TRIM = 1_000;
    private static final int MAX_KERF = 100;
    private static final int MIN_KNIVES = 2;
    private static final int MAX_KNIVES = 40;
    private static final int MAX_WANTED = 5;
    private static final int MAX_STRIPS = 6;
    private static final int MAX_PATTERN = MAX_WANTED * MAX_STRIPS;
    private static final int MAX_SETUPS = 9;
    private static final int MAX_DEFECTS = 10;
    private static final int NONE = -1;

    private static final int WHAT_WANTED = 0;
    private static final int WHAT_BEGIN = 1;
    private static final int WHAT_END = 2;
    private static final int WHAT_WEIGHT = 3;

    private final Coil nextCoil;
    private final Wishes wishes;
    private final PatternSearch search;
    private final Defects defects;
    private final Sequence sequence;
    private final SetUp[] setUps;
    private int setUpCount;

    /** The usual coil; nothing wanted, no set-ups, no defects. */
    public SlitWidths() {
        nextCoil = new Coil();
        wishes = new Wishes();
        search = new PatternSearch();
        defects = new Defects();
        sequence = new Sequence();
        setUps = new SetUp[MAX_SETUPS];
        for (int i = 0; i < MAX_SETUPS; i++) {
            setUps[i] = new SetUp();
        }
        setUpCount = 0;
    }

    /** The coil that is cut next. */
    public void coil(int width, int kilos, int trim, int kerf, int knives)
            throws IllegalArgumentException {
        if (!within(width, 1, MAX_WIDTH)
                || !within(kilos, 1, MAX_KILOS)
                || !within(trim, 0, MAX_TRIM)
                || !within(kerf, 0, MAX_KERF)
                || !within(knives, MIN_KNIVES, MAX_KNIVES)) {
            throw new IllegalArgumentException("no such coil");
        }
        nextCoil.width = width;
        nextCoil.kilos = kilos;
        nextCoil.trim = trim;
        nextCoil.kerf = kerf;
        nextCoil.knives = knives;
        search.known = false;
    }

    /** One more wanted width: its number. */
    public int want(int width, int strips) throws IllegalStateException, IllegalArgumentException {
        if (wishes.count >= MAX_WANTED) {
            throw new IllegalStateException("no more wanted widths");
        }
        if (!within(width, 1, MAX_WIDTH) || !within(strips, 0, MAX_STRIPS)) {
            throw new IllegalArgumentException("no such wanted width");
        }
        int number = wishes.count;
        wishes.widths[number] = width;
        wishes.still[number] = strips;
        wishes.count = number + 1;
        search.known = false;
        return number;
    }

    /** Strips that are wanted, told anew. */
    public void strips(int wanted, int strips)
            throws IndexOutOfBoundsException, IllegalArgumentException {
        checkWanted(wanted);
        if (!within(strips, 0, MAX_STRIPS)) {
            throw new IllegalArgumentException("no such number of strips");
        }
        wishes.still[wanted] = strips;
        search.known = false;
    }

    /** The best pattern's fill; 0 when there is no pattern. */
    public int fill() {
        search.find(nextCoil, wishes);
        return search.bestFill;
    }

    /** Strips of a wanted width in the best pattern. */
    public int best(int wanted) throws IndexOutOfBoundsException {
        checkWanted(wanted);
        search.find(nextCoil, wishes);
        return search.bestCounts[wanted];
    }

    /** A set-up by the best pattern: its number. */
    public int cut() throws IllegalStateException, UnsupportedOperationException {
        if (setUpCount >= MAX_SETUPS) {
            throw new IllegalStateException("no more set-ups");
        }
        search.find(nextCoil, wishes);
        if (search.bestStrips == 0) {
            throw new UnsupportedOperationException("no pattern");
        }
        int number = setUpCount;
        setUps[number].make(nextCoil, wishes, search);
        wishes.deliver(search.bestCounts);
        setUpCount = number + 1;
        search.known = false;
        sequence.known = false;
        return number;
    }

    /** Of a set-up's strip: its wanted width's number, where it begins, where it ends, its weight. */
    public int strip(int setup, int k, int what) throws IndexOutOfBoundsException {
        checkSetUp(setup);
        if (k < 0 || !within(what, WHAT_WANTED, WHAT_WEIGHT)) {
            throw new IndexOutOfBoundsException("no such strip or what");
        }
        SetUp cutting = setUps[setup];
        if (k >= cutting.stripCount) {
            return NONE;
        }
        switch (what) {
            case WHAT_WANTED:
                return cutting.numbers[k];
            case WHAT_BEGIN:
                return cutting.left + cutting.begins[k];
            case WHAT_END:
                return cutting.left + cutting.ends[k];
            default:
                return cutting.stripWeight(k);
        }
    }

    /** The weight of what is no strip of a set-up. */
    public int scrap(int setup) throws IndexOutOfBoundsException {
        checkSetUp(setup);
        return setUps[setup].scrapWeight();
    }

    /** Moves from a set-up to another one. */
    public int moves(int from, int to) throws IndexOutOfBoundsException {
        checkSetUp(from);
        checkSetUp(to);
        return setUps[to].placesNotIn(setUps[from]);
    }

    /** The moves of the order of all set-ups. */
    public int order() {
        sequence.find(setUps, setUpCount);
        return sequence.total;
    }

    /** The i-th set-up in the order of all set-ups; -1 when there are not so many. */
    public int ordered(int i) throws IndexOutOfBoundsException {
        if (i < 0) {
            throw new IndexOutOfBoundsException("below 0");
        }
        if (i >= setUpCount) {
            return NONE;
        }
        sequence.find(setUps, setUpCount);
        return sequence.numbers[i];
    }

    /** One more defect: how many there are. */
    public int defect(int from, int to) throws IllegalStateException, IllegalArgumentException {
        if (defects.count >= MAX_DEFECTS) {
            throw new IllegalStateException("no more defects");
        }
        if (!within(from, 0, MAX_WIDTH) || !within(to, 0, MAX_WIDTH) || to <= from) {
            throw new IllegalArgumentException("no such defect");
        }
        defects.froms[defects.count] = from;
        defects.tos[defects.count] = to;
        defects.count++;
        return defects.count;
    }

    /** Forgets all defects. */
    public void sound() {
        defects.count = 0;
    }

    /** Shifts a set-up to the least left at which no defect meets a strip: that left. */
    public int shift(int setup) throws IndexOutOfBoundsException, UnsupportedOperationException {
        checkSetUp(setup);
        int left = setUps[setup].leastSoundLeft(defects);
        if (left == NONE) {
            throw new UnsupportedOperationException("no left without a defect in a strip");
        }
        setUps[setup].left = left;
        sequence.known = false;
        return left;
    }

    private static boolean within(int value, int least, int greatest) {
        return value >= least && value <= greatest;
    }

    private void checkWanted(int wanted) {
        if (wanted < 0 || wanted >= wishes.count) {
            throw new IndexOutOfBoundsException("no such wanted width");
        }
    }

    private void checkSetUp(int setup) {
        if (setup < 0 || setup >= setUpCount) {
            throw new IndexOutOfBoundsException("no such set-up");
        }
    }

    /** The coil that is cut next. */
    private static final class Coil {
        int width = 10_000;
        int kilos = 10_000;
        int trim = 50;
        int kerf = 0;
        int knives = 20;
    }

    /** The wanted widths and how many strips of each are still wanted. */
    private static final class Wishes {
        final int[] widths = new int[MAX_WANTED];
        final int[] still = new int[MAX_WANTED];
        int count = 0;

        void deliver(int[] counts) {
            for (int i = 0; i < count; i++) {
                still[i] -= counts[i];
            }
        }
    }

    /** The exact search for the best pattern; what it found is kept until something changes. */
    private static final class PatternSearch {
        final int[] bestCounts = new int[MAX_WANTED];
        int bestStrips = 0;
        int bestFill = 0;
        boolean known = false;

        // A strip's pitch is its width with one kerf: with room for one kerf more, the strips of a
        // pattern fit exactly when their pitches do, and the kerfs need no count of their own.
        private final int[] pitches = new int[MAX_WANTED];
        private final int[] pitchesFrom = new int[MAX_WANTED + 1];
        private final int[] counts = new int[MAX_WANTED];
        private int room = 0;
        private int mostStrips = 0;
        private int bestSum = 0;

        void find(Coil coil, Wishes wishes) {
            if (known) {
                return;
            }
            Arrays.fill(bestCounts, 0);
            bestStrips = 0;
            bestSum = 0;
            room = coil.width - 2 * coil.trim + coil.kerf;
            mostStrips = coil.knives - 1;
            measure(coil, wishes);
            tryCounts(wishes, 0, 0, 0);
            bestFill = bestStrips == 0 ? 0 : bestSum - coil.kerf;
            known = true;
        }

        private void measure(Coil coil, Wishes wishes) {
            pitchesFrom[wishes.count] = 0;
            for (int i = wishes.count - 1; i >= 0; i--) {
                pitches[i] = wishes.widths[i] + coil.kerf;
                pitchesFrom[i] = pitchesFrom[i + 1] + wishes.still[i] * pitches[i];
            }
        }

        /** Tries all counts of one wanted width and of those behind it, the greatest counts first. */
        private void tryCounts(Wishes wishes, int wanted, int sum, int strips) {
            if (wanted >= wishes.count) {
                keepIfBetter(sum, strips);
                return;
            }
            if (sum + pitchesFrom[wanted] < bestSum) {
                return;
            }
            for (int n = wishes.still[wanted]; n >= 0; n--) {
                int nextSum = sum + n * pitches[wanted];
                if (nextSum <= room && strips + n <= mostStrips) {
                    counts[wanted] = n;
                    tryCounts(wishes, wanted + 1, nextSum, strips + n);
                }
            }
        }

        /** Of equally good patterns the first one stays: it has the most of the lowest widths. */
        private void keepIfBetter(int sum, int strips) {
            if (sum > bestSum || (sum == bestSum && strips < bestStrips)) {
                bestSum = sum;
                bestStrips = strips;
                System.arraycopy(counts, 0, bestCounts, 0, MAX_WANTED);
            }
        }
    }

    /** A coil with its strips and knives; their places are told from the set-up's left on. */
    private static final class SetUp {
        final int[] numbers = new int[MAX_PATTERN];
        final int[] begins = new int[MAX_PATTERN];
        final int[] ends = new int[MAX_PATTERN];
        int stripCount = 0;
        int left = 0;

        private final int[] knifePlaces = new int[2 * MAX_PATTERN];
        private int knifeCount = 0;
        private int width = 0;
        private int kilos = 0;
        private int trim = 0;
        private int span = 0;

        void make(Coil coil, Wishes wishes, PatternSearch search) {
            width = coil.width;
            kilos = coil.kilos;
            trim = coil.trim;
            left = coil.trim;
            span = search.bestFill;
            stripCount = 0;
            knifeCount = 0;
            int begin = 0;
            for (int i = 0; i < wishes.count; i++) {
                for (int n = 0; n < search.bestCounts[i]; n++) {
                    lay(i, begin, begin + wishes.widths[i]);
                    begin += wishes.widths[i] + coil.kerf;
                }
            }
        }

        private void lay(int number, int begin, int end) {
            if (stripCount >= MAX_PATTERN) {
                return;
            }
            numbers[stripCount] = number;
            begins[stripCount] = begin;
            ends[stripCount] = end;
            stripCount++;
            setKnife(begin);
            setKnife(end);
        }

        /** Places come in rising order, so that a place that is there already is the last one. */
        private void setKnife(int place) {
            boolean there = knifeCount > 0 && knifePlaces[knifeCount - 1] == place;
            if (!there && knifeCount < knifePlaces.length) {
                knifePlaces[knifeCount] = place;
                knifeCount++;
            }
        }

        /** Both rows of places rise, so that one walk along them side by side is enough. */
        int placesNotIn(SetUp other) {
            int missing = 0;
            int at = 0;
            for (int i = 0; i < knifeCount; i++) {
                int place = left + knifePlaces[i];
                while (at < other.knifeCount && other.left + other.knifePlaces[at] < place) {
                    at++;
                }
                if (at >= other.knifeCount || other.left + other.knifePlaces[at] != place) {
                    missing++;
                }
            }
            return missing;
        }

        int stripWeight(int k) {
            return kilosBefore(left + ends[k]) - kilosBefore(left + begins[k]);
        }

        int scrapWeight() {
            int weight = kilos;
            for (int k = 0; k < stripCount; k++) {
                weight -= stripWeight(k);
            }
            return weight;
        }

        /** At most 50,000 times 20,000: an int holds the product. */
        private int kilosBefore(int place) {
            return width < 1 ? 0 : kilos * place / width;
        }

        int leastSoundLeft(Defects defects) {
            int greatest = width - trim - span;
            // A jump takes one strip past one defect for good: there are no more jumps than pairs.
            int pairs = stripCount * defects.count;
            int tried = trim;
            for (int pass = 0; pass <= pairs && tried <= greatest; pass++) {
                int next = leftPast(defects, tried);
                if (next == tried) {
                    return tried;
                }
                tried = next;
            }
            return NONE;
        }

        /** A strip that meets a defect meets it at all greater lefts too, until it begins behind. */
        private int leftPast(Defects defects, int least) {
            int past = least;
            for (int k = 0; k < stripCount; k++) {
                for (int d = 0; d < defects.count; d++) {
                    if (past + begins[k] < defects.tos[d] && defects.froms[d] < past + ends[k]) {
                        past = defects.tos[d] - begins[k];
                    }
                }
            }
            return past;
        }
    }

    /** Stretches across that no strip may have. */
    private static final class Defects {
        final int[] froms = new int[MAX_DEFECTS];
        final int[] tos = new int[MAX_DEFECTS];
        int count = 0;
    }

    /** The order of all set-ups, kept until a set-up comes or shifts. Sets of set-ups are bits. */
    private static final class Sequence {
        final int[] numbers = new int[MAX_SETUPS];
        int total = 0;
        boolean known = false;

        private final int[] steps = new int[MAX_SETUPS * MAX_SETUPS];
        // The fewest moves through a set of set-ups behind a set-up that is not in it.
        private final int[] fewest = new int[(1 << MAX_SETUPS) * MAX_SETUPS];

        void find(SetUp[] setUps, int count) {
            if (known) {
                return;
            }
            measureSteps(setUps, count);
            measureSets(count);
            choose(count);
            known = true;
        }

        private void measureSteps(SetUp[] setUps, int count) {
            for (int from = 0; from < count; from++) {
                for (int to = 0; to < count; to++) {
                    steps[from * MAX_SETUPS + to] = setUps[to].placesNotIn(setUps[from]);
                }
            }
        }

        /** Smaller sets have smaller numbers: what a set builds on is there before it. */
        private void measureSets(int count) {
            for (int set = 0; set < 1 << count; set++) {
                for (int last = 0; last < count; last++) {
                    if ((set >> last & 1) == 0) {
                        int next = lowestNext(set, last, count);
                        fewest[set * MAX_SETUPS + last] = next == NONE ? 0 : through(set, last, next);
                    }
                }
            }
        }

        private void choose(int count) {
            total = 0;
            int set = (1 << count) - 1;
            int last = NONE;
            for (int i = 0; i < count; i++) {
                int next = lowestNext(set, last, count);
                if (next == NONE) {
                    return;
                }
                total += step(last, next);
                numbers[i] = next;
                set &= ~(1 << next);
                last = next;
            }
        }

        /** The lowest set-up of a set with which the way through all of it has the fewest moves. */
        private int lowestNext(int set, int last, int count) {
            int lowest = NONE;
            int least = 0;
            for (int next = 0; next < count; next++) {
                if ((set >> next & 1) != 0) {
                    int moves = through(set, last, next);
                    if (lowest == NONE || moves < least) {
                        lowest = next;
                        least = moves;
                    }
                }
            }
            return lowest;
        }

        private int through(int set, int last, int next) {
            return step(last, next) + fewest[(set & ~(1 << next)) * MAX_SETUPS + next];
        }

        /** The first set-up of all has none before it, and costs no moves. */
        private int step(int last, int next) {
            return last == NONE ? 0 : steps[last * MAX_SETUPS + next];
        }
    }
}
