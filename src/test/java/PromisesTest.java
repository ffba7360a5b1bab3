/** Each promise by hand: ordinary inputs, the edges that the document names, and wrong inputs. */
final class PromisesTest {
    private static final Due DUE = new Due("PromisesTest");
    private static final Class<IndexOutOfBoundsException> INDEX = IndexOutOfBoundsException.class;
    private static final Class<IllegalStateException> TURN = IllegalStateException.class;
    private static final Class<IllegalArgumentException> RANGE = IllegalArgumentException.class;
    private static final Class<UnsupportedOperationException> MEANING =
            UnsupportedOperationException.class;
    private static final int MIN = Integer.MIN_VALUE;
    private static final int MAX = Integer.MAX_VALUE;

    public static void main(String[] args) {
        newObject();
        coilRanges();
        coilDecidesPattern();
        want();
        strips();
        fill();
        best();
        bestTies();
        cut();
        cutRefusals();
        strip();
        weights();
        scrap();
        moves();
        order();
        orderAfterShifts();
        orderOfNine();
        ordered();
        defect();
        sound();
        shift();
        shiftEdges();
        shiftRefusals();
        setUpKeepsItsCoil();
        leastCoil();
        thirtyStrips();
        DUE.end();
    }

    private static SlitWidths with(int width, int kilos, int trim, int kerf, int knives) {
        SlitWidths x = new SlitWidths();
        x.coil(width, kilos, trim, kerf, knives);
        return x;
    }

    private static void row(String what, SlitWidths x, int... due) {
        for (int i = 0; i < due.length; i++) {
            DUE.is(what + ": best(" + i + ")", x.best(i), due[i]);
        }
    }

    private static void stripIs(SlitWidths x, int setup, int k, int... due) {
        for (int what = 0; what < 4; what++) {
            DUE.is("strip(" + setup + ", " + k + ", " + what + ")", x.strip(setup, k, what), due[what]);
        }
    }

    private static void newObject() {
        SlitWidths x = new SlitWidths();
        DUE.is("new: fill()", x.fill(), 0);
        DUE.is("new: order()", x.order(), 0);
        DUE.is("new: ordered(0)", x.ordered(0), -1);
        DUE.refused("new: best(0)", INDEX, () -> x.best(0));
        DUE.refused("new: strips(0, 0)", INDEX, () -> x.strips(0, 0));
        DUE.refused("new: cut()", MEANING, x::cut);
        DUE.refused("new: scrap(0)", INDEX, () -> x.scrap(0));
        DUE.refused("new: moves(0, 0)", INDEX, () -> x.moves(0, 0));
        DUE.refused("new: shift(0)", INDEX, () -> x.shift(0));
        DUE.refused("new: strip(0, 0, 0)", INDEX, () -> x.strip(0, 0, 0));
        DUE.is("new: first defect", x.defect(0, 1), 1);
        DUE.is("new: first wanted", x.want(9900, 1), 0);
        DUE.is("new: 10,000 wide with trims of 50", x.fill(), 9900);
        x.cut();
        stripIs(x, 0, 0, 0, 50, 9950, 9900);
        DUE.is("new: 10,000 kilos", x.scrap(0), 100);
        SlitWidths y = new SlitWidths();
        y.want(9901, 1);
        DUE.is("new: 9,901 is too wide", y.fill(), 0);
        SlitWidths z = new SlitWidths();
        for (int i = 0; i < 4; i++) {
            z.want(10, 6);
        }
        DUE.is("new: 20 knives, no kerf", z.fill(), 190);
    }

    private static void coilRanges() {
        SlitWidths x = with(100, 100, 0, 0, 40);
        x.want(30, 6);
        int[][] wrong = {
            {0, 1, 0, 0, 2}, {-1, 1, 0, 0, 2}, {20001, 1, 0, 0, 2}, {MIN, 1, 0, 0, 2}, {MAX, 1, 0, 0, 2},
            {1, 0, 0, 0, 2}, {1, 50001, 0, 0, 2}, {1, MIN, 0, 0, 2}, {1, MAX, 0, 0, 2},
            {1, 1, -1, 0, 2}, {1, 1, 1001, 0, 2}, {1, 1, MIN, 0, 2}, {1, 1, MAX, 0, 2},
            {1, 1, 0, -1, 2}, {1, 1, 0, 101, 2}, {1, 1, 0, MIN, 2}, {1, 1, 0, MAX, 2},
            {1, 1, 0, 0, 1}, {1, 1, 0, 0, 41}, {1, 1, 0, 0, MIN}, {1, 1, 0, 0, MAX}};
        for (int[] c : wrong) {
            DUE.refused("coil(" + java.util.Arrays.toString(c) + ")", RANGE,
                    () -> x.coil(c[0], c[1], c[2], c[3], c[4]));
        }
        DUE.is("refused coils change nothing", x.fill(), 90);
        int[][] right = {
            {1, 1, 0, 0, 2}, {20000, 50000, 1000, 100, 40}, {1, 1, 1000, 100, 40}, {20000, 1, 0, 0, 2}};
        for (int[] c : right) {
            DUE.goes("coil(" + java.util.Arrays.toString(c) + ")",
                    () -> x.coil(c[0], c[1], c[2], c[3], c[4]));
        }
    }

    private static void coilDecidesPattern() {
        SlitWidths x = with(100, 100, 0, 0, 40);
        x.want(30, 6);
        DUE.is("three of 30 in 100", x.fill(), 90);
        x.coil(100, 100, 5, 0, 40);
        DUE.is("three of 30 in 100 with trims of 5", x.fill(), 90);
        x.coil(100, 100, 6, 0, 40);
        DUE.is("two of 30 in 100 with trims of 6", x.fill(), 60);
        x.coil(100, 100, 0, 5, 40);
        DUE.is("three of 30 in 100 with kerfs of 5", x.fill(), 100);
        x.coil(100, 100, 0, 6, 40);
        DUE.is("two of 30 in 100 with kerfs of 6", x.fill(), 66);
        x.coil(100, 100, 0, 0, 4);
        DUE.is("four knives let three strips", x.fill(), 90);
        x.coil(100, 100, 0, 0, 3);
        DUE.is("three knives let two strips", x.fill(), 60);
        x.coil(100, 100, 0, 0, 2);
        DUE.is("two knives let one strip", x.fill(), 30);
        x.coil(1, 1, 1000, 100, 40);
        DUE.is("trims above the width leave nothing", x.fill(), 0);
        x.coil(130, 1, 50, 100, 40);
        DUE.is("a lone strip needs no kerf", x.fill(), 30);
        x.coil(129, 1, 50, 100, 40);
        DUE.is("a kerf makes no room for a lone strip", x.fill(), 0);
    }

    private static void want() {
        SlitWidths x = new SlitWidths();
        int[][] wrong = {{0, 1}, {-1, 1}, {20001, 1}, {MIN, 1}, {MAX, 1}, {1, -1}, {1, 7}, {1, MIN}, {1, MAX}};
        for (int[] w : wrong) {
            DUE.refused("want(" + w[0] + ", " + w[1] + ")", RANGE, () -> x.want(w[0], w[1]));
        }
        DUE.refused("no wanted width was made", INDEX, () -> x.best(0));
        DUE.is("want(1, 0)", x.want(1, 0), 0);
        DUE.is("want(20000, 6)", x.want(20000, 6), 1);
        DUE.is("want(1, 6)", x.want(1, 6), 2);
        DUE.is("want(1, 1), the same width again", x.want(1, 1), 3);
        DUE.refused("want(0, 0) before the fifth", RANGE, () -> x.want(0, 0));
        DUE.is("want(2, 1)", x.want(2, 1), 4);
        DUE.refused("a sixth", TURN, () -> x.want(1, 1));
        DUE.refused("a sixth that is out of range too", TURN, () -> x.want(0, 7));
        DUE.is("six of 1, one of 1, one of 2", x.fill(), 9);
        row("after wanting", x, 0, 0, 6, 1, 1);
    }

    private static void strips() {
        SlitWidths x = new SlitWidths();
        x.want(100, 2);
        x.want(10, 1);
        DUE.refused("strips(2, 1)", INDEX, () -> x.strips(2, 1));
        DUE.refused("strips(-1, 1)", INDEX, () -> x.strips(-1, 1));
        DUE.refused("strips(5, 9)", INDEX, () -> x.strips(5, 9));
        DUE.refused("strips(min, min)", INDEX, () -> x.strips(MIN, MIN));
        DUE.refused("strips(max, max)", INDEX, () -> x.strips(MAX, MAX));
        DUE.refused("strips(0, 7)", RANGE, () -> x.strips(0, 7));
        DUE.refused("strips(0, -1)", RANGE, () -> x.strips(0, -1));
        DUE.is("refused strips change nothing", x.fill(), 210);
        x.strips(0, 6);
        DUE.is("six and one", x.fill(), 610);
        x.strips(1, 0);
        DUE.is("six and none", x.fill(), 600);
        x.strips(0, 0);
        DUE.is("none", x.fill(), 0);
    }

    private static void fill() {
        SlitWidths x = new SlitWidths();
        x.want(2500, 4);
        DUE.is("9,900 holds three of 2,500", x.fill(), 7500);
        x.want(1800, 3);
        x.want(900, 6);
        DUE.is("three of 1,800, five of 900", x.fill(), 9900);
        DUE.is("asking changes nothing", x.fill(), 9900);
        x.coil(20000, 1, 0, 100, 40);
        DUE.is("with kerfs the last 900 just fits", x.fill(), 10000 + 5400 + 4 * 900 + 10 * 100);
        x.coil(20000, 1, 0, 0, 40);
        DUE.is("without kerfs", x.fill(), 10000 + 5400 + 5 * 900);
    }

    private static void best() {
        SlitWidths x = new SlitWidths();
        x.want(2500, 4);
        x.want(1800, 3);
        x.want(900, 6);
        row("doc", x, 0, 3, 5);
        DUE.refused("best(3)", INDEX, () -> x.best(3));
        DUE.refused("best(-1)", INDEX, () -> x.best(-1));
        DUE.refused("best(min)", INDEX, () -> x.best(MIN));
        DUE.refused("best(max)", INDEX, () -> x.best(MAX));
        x.coil(800, 1, 0, 0, 2);
        row("no pattern", x, 0, 0, 0);
        x.coil(20000, 1, 0, 0, 40);
        DUE.is("all of the first", x.best(0), 4);
    }

    private static void bestTies() {
        SlitWidths fewest = with(60, 1, 0, 0, 40);
        fewest.want(10, 6);
        fewest.want(20, 3);
        fewest.want(30, 2);
        row("the fewest strips", fewest, 0, 0, 2);
        SlitWidths low = with(60, 1, 0, 0, 40);
        low.want(20, 3);
        low.want(20, 3);
        row("the most of the lowest of equal widths", low, 3, 0);
        SlitWidths lower = with(60, 1, 0, 0, 40);
        lower.want(25, 1);
        lower.want(20, 1);
        lower.want(35, 1);
        lower.want(40, 1);
        row("25 + 35 before 20 + 40", lower, 1, 0, 1, 0);
        SlitWidths second = with(60, 1, 0, 0, 40);
        second.want(100, 1);
        second.want(20, 1);
        second.want(25, 1);
        second.want(35, 1);
        second.want(40, 1);
        row("20 + 40 before 25 + 35", second, 0, 1, 0, 0, 1);
        SlitWidths full = with(60, 1, 0, 0, 40);
        full.want(50, 1);
        full.want(7, 6);
        full.want(9, 2);
        row("fill before strips", full, 0, 6, 2);
        SlitWidths kerfs = with(64, 1, 0, 4, 40);
        kerfs.want(30, 2);
        kerfs.want(18, 3);
        kerfs.want(64, 1);
        row("kerfs count in the fill", kerfs, 0, 0, 1);
    }

    private static void cut() {
        SlitWidths x = new SlitWidths();
        x.want(2500, 4);
        x.want(1800, 3);
        x.want(900, 6);
        DUE.is("first cut", x.cut(), 0);
        DUE.is("what is left of it: three of 2,500, one of 900", x.fill(), 8400);
        row("after the first cut", x, 3, 0, 1);
        DUE.is("second cut", x.cut(), 1);
        row("after the second cut", x, 1, 0, 0);
        DUE.is("third cut", x.cut(), 2);
        row("after the third cut", x, 0, 0, 0);
        DUE.refused("nothing is wanted any more", MEANING, x::cut);
        DUE.refused("no set-up was made of it", INDEX, () -> x.scrap(3));
        x.strips(2, 1);
        DUE.is("fourth cut", x.cut(), 3);
    }

    private static void cutRefusals() {
        SlitWidths x = new SlitWidths();
        x.want(100, 6);
        x.coil(100, 1, 0, 0, 2);
        for (int i = 0; i < 9; i++) {
            x.strips(0, 6);
            DUE.is("cut " + i, x.cut(), i);
        }
        DUE.is("five are still wanted", x.best(0), 1);
        DUE.refused("a tenth set-up", TURN, x::cut);
        x.coil(1000, 1, 0, 0, 40);
        DUE.is("what is refused takes nothing", x.best(0), 5);
        x.strips(0, 0);
        DUE.refused("a tenth set-up without a pattern", TURN, x::cut);
        DUE.refused("no tenth", INDEX, () -> x.scrap(9));
        DUE.is("the ninth", x.scrap(8), 0);
    }

    private static void strip() {
        SlitWidths x = with(5000, 4000, 20, 15, 6);
        x.want(900, 1);
        x.want(2500, 1);
        x.want(300, 2);
        DUE.is("setup", x.cut(), 0);
        stripIs(x, 0, 0, 0, 20, 920, 736 - 16);
        stripIs(x, 0, 1, 1, 935, 3435, 2748 - 748);
        stripIs(x, 0, 2, 2, 3450, 3750, 3000 - 2760);
        stripIs(x, 0, 3, 2, 3765, 4065, 3252 - 3012);
        stripIs(x, 0, 4, -1, -1, -1, -1);
        stripIs(x, 0, 30, -1, -1, -1, -1);
        stripIs(x, 0, MAX, -1, -1, -1, -1);
        int[][] wrong = {{1, 0, 0}, {-1, 0, 0}, {9, 0, 0}, {MIN, 0, 0}, {MAX, 0, 0}, {0, -1, 0}, {0, MIN, 0},
            {0, 0, -1}, {0, 0, 4}, {0, 0, MIN}, {0, 0, MAX}, {0, 99, 4}, {0, 99, -1}};
        for (int[] w : wrong) {
            DUE.refused("strip(" + w[0] + ", " + w[1] + ", " + w[2] + ")", INDEX,
                    () -> x.strip(w[0], w[1], w[2]));
        }
        SlitWidths most = with(20000, 1, 0, 0, 40);
        for (int i = 0; i < 5; i++) {
            most.want(10, 6);
        }
        most.cut();
        DUE.is("thirty strips at most: the last one's number", most.strip(0, 29, 0), 4);
        DUE.is("thirty strips at most: the last one's end", most.strip(0, 29, 2), 300);
        DUE.is("thirty strips at most: none behind", most.strip(0, 30, 2), -1);
    }

    private static void weights() {
        SlitWidths x = with(7, 10, 0, 1, 40);
        x.want(1, 2);
        x.want(3, 1);
        x.cut();
        stripIs(x, 0, 0, 0, 0, 1, 1);
        stripIs(x, 0, 1, 0, 2, 3, 4 - 2);
        stripIs(x, 0, 2, 1, 4, 7, 10 - 5);
        DUE.is("scrap", x.scrap(0), 2);
        SlitWidths heavy = with(20000, 50000, 0, 0, 2);
        heavy.want(20000, 1);
        heavy.cut();
        stripIs(heavy, 0, 0, 0, 0, 20000, 50000);
        DUE.is("no scrap", heavy.scrap(0), 0);
        SlitWidths light = with(100, 1, 0, 0, 40);
        light.want(33, 3);
        light.want(1, 1);
        light.cut();
        stripIs(light, 0, 2, 0, 66, 99, 0);
        stripIs(light, 0, 3, 1, 99, 100, 1);
    }

    private static void scrap() {
        SlitWidths x = with(1000, 50, 100, 10, 40);
        x.want(200, 2);
        x.cut();
        DUE.is("50 less 10 and 10 (5..15, 15..25 by 310 and 510)", x.scrap(0), 50 - 10 - (25 - 15));
        DUE.refused("scrap(1)", INDEX, () -> x.scrap(1));
        DUE.refused("scrap(-1)", INDEX, () -> x.scrap(-1));
        DUE.refused("scrap(min)", INDEX, () -> x.scrap(MIN));
        DUE.refused("scrap(max)", INDEX, () -> x.scrap(MAX));
        SlitWidths y = with(100, 3, 0, 0, 40);
        y.want(34, 1);
        y.cut();
        DUE.is("by 34: 1 of 3", y.scrap(0), 2);
        y.defect(0, 1);
        y.shift(0);
        DUE.is("by 1 and 35: 1 of 3", y.scrap(0), 2);
        y.defect(0, 33);
        y.shift(0);
        DUE.is("by 33 and 67: 2 of 3", y.scrap(0), 1);
    }

    private static void moves() {
        SlitWidths x = with(100, 1, 0, 0, 40);
        x.want(20, 3);
        x.want(40, 0);
        x.want(60, 0);
        x.cut();
        x.strips(1, 1);
        x.cut();
        x.strips(2, 1);
        x.cut();
        DUE.is("0 20 40 60 to 0 40", x.moves(0, 1), 0);
        DUE.is("0 40 to 0 20 40 60", x.moves(1, 0), 2);
        DUE.is("0 40 to 0 60", x.moves(1, 2), 1);
        DUE.is("to itself", x.moves(0, 0), 0);
        x.coil(100, 1, 20, 20, 40);
        x.strips(0, 2);
        x.cut();
        DUE.is("0 20 40 60 to 20 40 60 80", x.moves(0, 3), 1);
        DUE.is("20 40 60 80 to 0 20 40 60", x.moves(3, 0), 1);
        DUE.is("20 40 60 80 to 0 60", x.moves(3, 2), 1);
        x.defect(0, 20);
        x.shift(1);
        DUE.is("shifted: 20 60 to 20 40 60 80", x.moves(1, 3), 2);
        DUE.is("shifted: 0 60 to 20 60", x.moves(2, 1), 1);
        int[][] wrong = {{0, 4}, {4, 0}, {-1, 0}, {0, -1}, {9, 9}, {MIN, 0}, {0, MIN}, {MAX, 0}, {0, MAX}};
        for (int[] w : wrong) {
            DUE.refused("moves(" + w[0] + ", " + w[1] + ")", INDEX, () -> x.moves(w[0], w[1]));
        }
    }

    /** Set-ups of one strip each: begins at the trim, ends a width behind it. */
    private static SlitWidths ofLoneStrips(int[][] trimsAndWidths) {
        SlitWidths x = new SlitWidths();
        for (int i = 0; i < 5; i++) {
            x.want((i + 1) * 10, 0);
        }
        for (int[] t : trimsAndWidths) {
            x.coil(1000, 1, t[0], 0, 2);
            x.strips(t[1] / 10 - 1, 1);
            x.cut();
        }
        return x;
    }

    private static void orderIs(String what, SlitWidths x, int moves, int... numbers) {
        DUE.is(what + ": order()", x.order(), moves);
        for (int i = 0; i < numbers.length; i++) {
            DUE.is(what + ": ordered(" + i + ")", x.ordered(i), numbers[i]);
        }
        DUE.is(what + ": behind the last", x.ordered(numbers.length), -1);
    }

    private static void order() {
        orderIs("none", new SlitWidths(), 0);
        orderIs("one", ofLoneStrips(new int[][] {{0, 10}}), 0, 0);
        orderIs("two alike", ofLoneStrips(new int[][] {{0, 10}, {0, 10}}), 0, 0, 1);
        orderIs("two", ofLoneStrips(new int[][] {{0, 10}, {20, 10}}), 2, 0, 1);
        orderIs("alike ones together", ofLoneStrips(new int[][] {{0, 10}, {20, 10}, {0, 10}}), 2, 0, 2, 1);
        orderIs("a chain 0..10 10..30 30..60 60..100",
                ofLoneStrips(new int[][] {{30, 30}, {0, 10}, {60, 40}, {10, 20}}), 3, 1, 3, 0, 2);
        SlitWidths x = with(100, 1, 0, 0, 40);
        x.want(50, 1);
        x.want(10, 0);
        x.cut();
        x.strips(1, 5);
        x.cut();
        orderIs("many knives first, then few", x, 0, 1, 0);
        x.coil(500, 1, 60, 0, 40);
        x.strips(1, 1);
        x.cut();
        orderIs("one more", x, 2, 1, 0, 2);
    }

    private static void orderAfterShifts() {
        SlitWidths x = ofLoneStrips(new int[][] {{0, 10}, {20, 10}, {10, 10}});
        orderIs("a chain", x, 2, 0, 2, 1);
        x.defect(0, 40);
        x.shift(2);
        orderIs("its middle shifted", x, 4, 0, 1, 2);
        x.shift(1);
        orderIs("its end shifted too", x, 2, 0, 1, 2);
        x.sound();
        x.shift(2);
        orderIs("its middle shifted back", x, 3, 0, 2, 1);
    }

    private static void orderOfNine() {
        int[][] far = new int[9][];
        int[][] chain = new int[9][];
        int[] mixed = {4, 8, 2, 0, 6, 1, 7, 3, 5};
        for (int i = 0; i < 9; i++) {
            far[i] = new int[] {i * 20, 10};
            chain[mixed[i]] = new int[] {i * 10, 10};
        }
        orderIs("nine far apart", ofLoneStrips(far), 16, 0, 1, 2, 3, 4, 5, 6, 7, 8);
        orderIs("nine in a chain", ofLoneStrips(chain), 8, mixed);
    }

    private static void ordered() {
        SlitWidths x = ofLoneStrips(new int[][] {{0, 10}, {20, 10}, {0, 10}});
        DUE.is("asked before order()", x.ordered(1), 2);
        DUE.is("ordered(3)", x.ordered(3), -1);
        DUE.is("ordered(9)", x.ordered(9), -1);
        DUE.is("ordered(max)", x.ordered(MAX), -1);
        DUE.refused("ordered(-1)", INDEX, () -> x.ordered(-1));
        DUE.refused("ordered(min)", INDEX, () -> x.ordered(MIN));
        DUE.refused("new: ordered(-1)", INDEX, () -> new SlitWidths().ordered(-1));
    }

    private static void defect() {
        SlitWidths x = new SlitWidths();
        int[][] wrong = {{5, 5}, {6, 5}, {-1, 5}, {0, 20001}, {20000, 20000}, {20000, 20001}, {-2, -1},
            {MIN, MAX}, {MAX, MIN}, {0, MIN}, {0, MAX}, {MIN, 0}};
        for (int[] w : wrong) {
            DUE.refused("defect(" + w[0] + ", " + w[1] + ")", RANGE, () -> x.defect(w[0], w[1]));
        }
        DUE.is("defect(0, 20000)", x.defect(0, 20000), 1);
        DUE.is("defect(19999, 20000)", x.defect(19999, 20000), 2);
        for (int i = 3; i <= 10; i++) {
            DUE.is("the same again", x.defect(0, 1), i);
        }
        DUE.refused("an eleventh", TURN, () -> x.defect(0, 1));
        DUE.refused("an eleventh that is out of range too", TURN, () -> x.defect(1, 0));
    }

    private static void sound() {
        SlitWidths x = with(100, 1, 0, 0, 40);
        x.sound();
        x.want(50, 1);
        x.cut();
        for (int i = 1; i <= 10; i++) {
            x.defect(0, i);
        }
        DUE.is("behind all", x.shift(0), 10);
        x.sound();
        DUE.is("the set-up stays where it is", x.strip(0, 0, 1), 10);
        DUE.is("back to the trim", x.shift(0), 0);
        DUE.is("defects are counted anew", x.defect(0, 3), 1);
        DUE.is("only the new one is left", x.shift(0), 3);
    }

    private static void shift() {
        SlitWidths x = with(200, 200, 10, 20, 40);
        x.want(40, 2);
        x.cut();
        DUE.is("no defects", x.shift(0), 10);
        x.defect(0, 10);
        DUE.is("a defect in the trim", x.shift(0), 10);
        x.defect(50, 70);
        DUE.is("a defect in the kerf", x.shift(0), 10);
        x.defect(110, 200);
        DUE.is("a defect behind the strips", x.shift(0), 10);
        x.sound();
        x.defect(5, 12);
        DUE.is("behind a defect", x.shift(0), 12);
        stripIs(x, 0, 0, 0, 12, 52, 40);
        stripIs(x, 0, 1, 0, 72, 112, 40);
        x.defect(60, 73);
        DUE.is("the second strip behind a defect", x.shift(0), 13);
        x.defect(52, 53);
        DUE.is("12 and 13 meet one, 14 .. 72 another one", x.shift(0), 73);
        x.defect(173, 200);
        DUE.is("a defect behind the shifted strips", x.shift(0), 73);
        x.defect(172, 173);
        DUE.refused("none is left", MEANING, () -> x.shift(0));
        DUE.is("it stays", x.strip(0, 0, 1), 73);
    }

    private static void shiftEdges() {
        SlitWidths x = with(100, 1, 10, 0, 40);
        x.want(30, 1);
        x.cut();
        x.defect(10, 60);
        DUE.is("just within the right trim", x.shift(0), 60);
        x.defect(60, 61);
        DUE.refused("the right trim is kept", MEANING, () -> x.shift(0));
        DUE.is("it stays where it was", x.strip(0, 0, 1), 60);
        x.sound();
        DUE.is("the least left, not the nearest one", x.shift(0), 10);
        x.defect(0, 11);
        x.defect(41, 42);
        DUE.is("between two defects", x.shift(0), 11);
        x.defect(40, 42);
        DUE.is("behind both", x.shift(0), 42);
        SlitWidths y = with(100, 1, 10, 0, 40);
        y.want(80, 1);
        y.cut();
        y.defect(90, 20000);
        DUE.is("defects in both trims and beyond the coil", y.shift(0), 10);
        y.defect(89, 90);
        DUE.refused("the last tenth", MEANING, () -> y.shift(0));
    }

    private static void shiftRefusals() {
        SlitWidths x = with(100, 1, 0, 0, 40);
        x.want(100, 2);
        x.cut();
        x.cut();
        x.defect(50, 51);
        DUE.refused("shift(2)", INDEX, () -> x.shift(2));
        DUE.refused("shift(-1)", INDEX, () -> x.shift(-1));
        DUE.refused("shift(min)", INDEX, () -> x.shift(MIN));
        DUE.refused("shift(max)", INDEX, () -> x.shift(MAX));
        DUE.refused("shift(0)", MEANING, () -> x.shift(0));
        DUE.is("it stays", x.strip(0, 0, 1), 0);
        DUE.is("the moves stay", x.moves(0, 1), 0);
        DUE.is("the defects stay", x.defect(1, 2), 2);
    }

    private static void setUpKeepsItsCoil() {
        SlitWidths x = with(200, 100, 10, 20, 40);
        x.want(40, 2);
        x.cut();
        x.coil(20000, 50000, 1000, 0, 2);
        stripIs(x, 0, 0, 0, 10, 50, 25 - 5);
        stripIs(x, 0, 1, 0, 70, 110, 55 - 35);
        DUE.is("scrap", x.scrap(0), 60);
        x.defect(0, 90);
        DUE.is("shift within the old coil", x.shift(0), 90);
        x.defect(90, 91);
        DUE.refused("not beyond the old coil", MEANING, () -> x.shift(0));
        stripIs(x, 0, 1, 0, 150, 190, 95 - 75);
    }

    private static void leastCoil() {
        SlitWidths x = with(1, 7, 0, 0, 2);
        x.want(1, 2);
        DUE.is("one tenth", x.fill(), 1);
        DUE.is("cut", x.cut(), 0);
        stripIs(x, 0, 0, 0, 0, 1, 7);
        DUE.is("no scrap", x.scrap(0), 0);
        x.defect(1, 2);
        DUE.is("a defect beside it", x.shift(0), 0);
        x.defect(0, 1);
        DUE.refused("a defect all over it", MEANING, () -> x.shift(0));
    }

    private static void thirtyStrips() {
        SlitWidths x = with(400, 400, 10, 1, 31);
        for (int i = 0; i < 5; i++) {
            x.want(i == 4 ? 12 : 10, 6);
        }
        DUE.is("24 of 10, 6 of 12, 29 kerfs", x.fill(), 240 + 72 + 29);
        x.cut();
        stripIs(x, 0, 29, 4, 339, 351, 12);
        stripIs(x, 0, 30, -1, -1, -1, -1);
        DUE.is("scrap", x.scrap(0), 400 - 240 - 72);
        x.coil(400, 400, 10, 1, 30);
        for (int i = 0; i < 5; i++) {
            x.strips(i, 6);
        }
        DUE.is("thirty knives let 29", x.fill(), 230 + 72 + 28);
        x.coil(1000, 1, 360, 0, 2);
        x.cut();
        DUE.is("two places behind all sixty", x.moves(0, 1), 2);
        DUE.is("sixty places before both", x.moves(1, 0), 60);
        DUE.is("order()", x.order(), 2);
        x.defect(0, 11);
        x.defect(350, 351);
        DUE.is("the kerf before the last strip takes the defect", x.shift(0), 22);
    }
}
