/** What each promise says at its boundaries. */
final class PromiseBoundaries {
    private static final Due DUE = BoundaryTest.DUE;
    private static final Class<IndexOutOfBoundsException> INDEX = BoundaryTest.INDEX;
    private static final Class<IllegalStateException> TURN = BoundaryTest.TURN;
    private static final Class<IllegalArgumentException> RANGE = BoundaryTest.RANGE;
    private static final Class<UnsupportedOperationException> MEANING = BoundaryTest.MEANING;
    private static final int MIN = BoundaryTest.MIN;
    private static final int MAX = BoundaryTest.MAX;

    private PromiseBoundaries() {
    }

    static void all() {
        newObject();
        coil();
        coilRange();
        want();
        strips();
        stripsRefused();
        fill();
        best();
        cut();
        cutRefused();
        stripAnswers();
        stripRefused();
        scrap();
        moves();
        order();
        ordered();
        defect();
        defectRefused();
        sound();
        shift();
        shiftRefused();
    }

    private static void says(int promise, String words) {
        BoundaryTest.says(promise, words);
    }

    private static SlitWidths with(int width, int kilos, int trim, int kerf, int knives) {
        return BoundaryTest.with(width, kilos, trim, kerf, knives);
    }

    private static void newObject() {
        says(1, "As told; nothing wanted, no set-ups, no defects.");
        SlitWidths x = new SlitWidths();
        DUE.is("no fill", x.fill(), 0);
        DUE.refused("nothing wanted", INDEX, () -> x.best(0));
        DUE.refused("nothing wanted anew", INDEX, () -> x.strips(0, 1));
        DUE.refused("no pattern", MEANING, x::cut);
        DUE.refused("no set-up's strip", INDEX, () -> x.strip(0, 0, 0));
        DUE.refused("no set-up's scrap", INDEX, () -> x.scrap(0));
        DUE.refused("no set-ups' moves", INDEX, () -> x.moves(0, 0));
        DUE.refused("no set-up to shift", INDEX, () -> x.shift(0));
        DUE.is("no moves in order", x.order(), 0);
        DUE.is("none in order", x.ordered(0), -1);
        DUE.goes("no defects to forget", x::sound);
        DUE.is("the first wanted width", x.want(9900, 2), 0);
        DUE.is("as told: 10,000 wide, trims of 50", x.fill(), 9900);
        DUE.is("the first set-up", x.cut(), 0);
        BoundaryTest.stripIs(x, 0, 0, 0, 50, 9950, 9900);
        DUE.is("as told: 10,000 kilos", x.scrap(0), 100);
        DUE.is("no defects that shift it", x.shift(0), 50);
        DUE.is("the first defect", x.defect(0, 1), 1);
        SlitWidths other = new SlitWidths();
        DUE.refused("another object has nothing of it", INDEX, () -> other.best(0));
        DUE.is("nor its defects", other.defect(0, 1), 1);
    }

    private static void coil() {
        says(2, "The coil that is cut next.");
        SlitWidths x = new SlitWidths();
        x.want(10, 6);
        BoundaryTest.takesCoil(x, 20, 3, 0, 0, 40);
        DUE.is("two fit", x.fill(), 20);
        BoundaryTest.takesCoil(x, 30, 5, 0, 0, 40);
        DUE.is("the last one told counts: three fit", x.fill(), 30);
        x.cut();
        DUE.is("the last one's kilos", x.strip(0, 0, 3) + x.strip(0, 1, 3) + x.strip(0, 2, 3), 5);
        DUE.is("the next set-up has the same coil", x.cut(), 1);
        BoundaryTest.stripIs(x, 1, 2, 0, 20, 30);
    }

    private static void coilRange() {
        says(2, "Range: it is not so.");
        int[] least = {1, 1, 0, 0, 2};
        int[] greatest = {20000, 50000, 1000, 100, 40};
        SlitWidths x = new SlitWidths();
        BoundaryTest.takesCoil(x, least);
        BoundaryTest.takesCoil(x, greatest);
        for (int i = 0; i < least.length; i++) {
            BoundaryTest.refusesCoil(x, changed(least, i, least[i] - 1));
            BoundaryTest.refusesCoil(x, changed(greatest, i, greatest[i] + 1));
            BoundaryTest.refusesCoil(x, changed(least, i, MIN));
            BoundaryTest.refusesCoil(x, changed(least, i, MAX));
            BoundaryTest.takesCoil(x, changed(least, i, greatest[i]));
            BoundaryTest.takesCoil(x, changed(greatest, i, least[i]));
        }
        BoundaryTest.refusesCoil(x, MIN, MIN, MIN, MIN, MIN);
        BoundaryTest.refusesCoil(x, MAX, MAX, MAX, MAX, MAX);
    }

    private static int[] changed(int[] row, int at, int value) {
        int[] changed = row.clone();
        changed[at] = value;
        return changed;
    }

    private static void want() {
        says(3, "One more wanted width: its number.");
        SlitWidths x = with(20000, 1, 0, 0, 40);
        for (int i = 0; i < 5; i++) {
            int none = i;
            DUE.refused("no wanted width " + i + " yet", INDEX, () -> x.best(none));
            DUE.is("want()", x.want(10, 1), i);
            DUE.is("wanted width " + i, x.best(i), 1);
        }
        says(3, "Turn: there are 5; range: width, strips.");
        DUE.refused("a sixth", TURN, () -> x.want(10, 1));
        DUE.refused("no wanted width 5", INDEX, () -> x.best(5));
        for (int i = 0; i < 5; i++) {
            x.strips(i, 0);
        }
        DUE.refused("there are five though no strips are wanted", TURN, () -> x.want(10, 1));
        SlitWidths y = with(20000, 1, 0, 0, 40);
        int[][] wrong = {{0, 1}, {20001, 1}, {-1, 1}, {MIN, 1}, {MAX, 1}, {1, -1}, {1, 7}, {1, MIN},
            {1, MAX}, {0, -1}, {20001, 7}};
        for (int[] w : wrong) {
            DUE.refused("want(" + w[0] + ", " + w[1] + ")", RANGE, () -> y.want(w[0], w[1]));
        }
        DUE.is("the least of both", y.want(1, 0), 0);
        DUE.is("the greatest of both", y.want(20000, 6), 1);
        DUE.is("they are as told", y.fill(), 20000);
        y.strips(0, 1);
        y.strips(1, 0);
        DUE.is("the least is as told", y.fill(), 1);
    }

    private static void strips() {
        says(4, "Strips that are wanted, told anew.");
        SlitWidths x = with(20000, 1, 0, 0, 40);
        x.want(10, 3);
        x.want(100, 2);
        x.strips(0, 6);
        DUE.is("more: the greatest number", x.fill(), 260);
        x.strips(0, 0);
        DUE.is("fewer: the least number", x.fill(), 200);
        x.strips(1, 0);
        DUE.is("none at all", x.fill(), 0);
        x.strips(1, 1);
        x.cut();
        DUE.is("none are left behind the cut", x.fill(), 0);
        x.strips(1, 2);
        DUE.is("told anew, not added", x.fill(), 200);
        BoundaryTest.stripIs(x, 0, 0, 1, 0, 100);
        BoundaryTest.stripIs(x, 0, 1, -1, -1, -1);
    }

    private static void stripsRefused() {
        says(4, "Index: no such width; range: strips.");
        SlitWidths empty = new SlitWidths();
        DUE.refused("nothing wanted", INDEX, () -> empty.strips(0, 0));
        SlitWidths x = with(20000, 1, 0, 0, 40);
        for (int count = 1; count <= 5; count++) {
            x.want(10, 1);
            int none = count;
            DUE.goes("the last of " + count, () -> x.strips(none - 1, 6));
            DUE.refused("one beyond " + count, INDEX, () -> x.strips(none, 6));
            DUE.is("all of them", x.fill(), count * 60);
        }
        int[] noSuch = {-1, 5, 6, MIN, MAX};
        for (int wanted : noSuch) {
            DUE.refused("strips(" + wanted + ", 0)", INDEX, () -> x.strips(wanted, 0));
        }
        int[] wrong = {-1, 7, MIN, MAX};
        for (int strips : wrong) {
            DUE.refused("strips(0, " + strips + ")", RANGE, () -> x.strips(0, strips));
        }
        DUE.is("nothing is changed", x.fill(), 300);
    }

    private static void fill() {
        says(5, "The best pattern's fill; 0 when there is no pattern.");
        SlitWidths x = new SlitWidths();
        DUE.is("nothing wanted", x.fill(), 0);
        x.want(100, 0);
        DUE.is("no strips wanted", x.fill(), 0);
        x.strips(0, 6);
        x.coil(99, 1, 0, 100, 40);
        DUE.is("too wide by one tenth", x.fill(), 0);
        x.coil(100, 1, 0, 100, 40);
        DUE.is("just fits", x.fill(), 100);
        x.coil(100, 1, 50, 0, 40);
        DUE.is("trims take all of the width", x.fill(), 0);
        x.coil(20000, 1, 0, 0, 40);
        DUE.is("all six", x.fill(), 600);
        SlitWidths least = with(1, 1, 0, 0, 2);
        least.want(1, 1);
        DUE.is("the least fill", least.fill(), 1);
        SlitWidths greatest = with(20000, 1, 0, 0, 2);
        greatest.want(20000, 1);
        DUE.is("the greatest fill", greatest.fill(), 20000);
    }

    private static void best() {
        says(6, "Strips of a wanted width in the best pattern (0 without one).");
        SlitWidths x = with(600, 1, 0, 0, 40);
        for (int i = 0; i < 5; i++) {
            x.want(i == 4 ? 601 : 100, i);
        }
        BoundaryTest.bestIs(x, 0, 1, 2, 3, 0);
        x.strips(0, 6);
        BoundaryTest.bestIs(x, 6, 0, 0, 0, 0);
        x.coil(99, 1, 0, 0, 40);
        BoundaryTest.bestIs(x, 0, 0, 0, 0, 0);
        x.coil(100, 1, 1000, 100, 40);
        BoundaryTest.bestIs(x, 0, 0, 0, 0, 0);
        x.coil(100, 1, 0, 0, 2);
        BoundaryTest.bestIs(x, 1, 0, 0, 0, 0);
        says(6, "Index: no such width.");
        int[] noSuch = {-1, 5, 6, MIN, MAX};
        for (int wanted : noSuch) {
            DUE.refused("best(" + wanted + ")", INDEX, () -> x.best(wanted));
        }
        SlitWidths empty = new SlitWidths();
        DUE.refused("nothing wanted", INDEX, () -> empty.best(0));
        for (int count = 1; count <= 5; count++) {
            empty.want(10, 0);
            DUE.is("the last of " + count, empty.best(count - 1), 0);
            int none = count;
            DUE.refused("one beyond " + count, INDEX, () -> empty.best(none));
        }
    }

    private static void cut() {
        says(7, "A set-up by the best pattern: its number.");
        SlitWidths x = with(60, 60, 0, 0, 40);
        x.want(20, 4);
        x.want(30, 3);
        BoundaryTest.bestIs(x, 0, 2);
        DUE.is("the first", x.cut(), 0);
        BoundaryTest.stripIs(x, 0, 0, 1, 0, 30, 30);
        BoundaryTest.stripIs(x, 0, 1, 1, 30, 60, 30);
        BoundaryTest.stripIs(x, 0, 2, -1, -1, -1, -1);
        BoundaryTest.bestIs(x, 3, 0);
        DUE.is("the second", x.cut(), 1);
        BoundaryTest.stripIs(x, 1, 2, 0, 40, 60, 20);
        BoundaryTest.bestIs(x, 1, 1);
        DUE.is("the third", x.cut(), 2);
        BoundaryTest.stripIs(x, 2, 0, 0, 0, 20, 20);
        BoundaryTest.stripIs(x, 2, 1, 1, 20, 50, 30);
        DUE.is("nothing is left", x.fill(), 0);
    }

    private static void cutRefused() {
        says(7, "Turn: there are 9; meaning: there is no pattern.");
        SlitWidths x = with(10, 1, 0, 0, 2);
        DUE.refused("nothing wanted", MEANING, x::cut);
        x.want(10, 0);
        DUE.refused("no strips wanted", MEANING, x::cut);
        x.strips(0, 6);
        x.coil(9, 1, 0, 0, 2);
        DUE.refused("too wide by one tenth", MEANING, x::cut);
        x.coil(1, 1, 1000, 0, 2);
        DUE.refused("trims above the width", MEANING, x::cut);
        x.coil(10, 1, 0, 0, 2);
        for (int i = 0; i < 9; i++) {
            x.strips(0, 6);
            DUE.is("set-up " + i + " of nine", x.cut(), i);
        }
        DUE.refused("there are nine", TURN, x::cut);
        x.coil(1000, 1, 0, 0, 40);
        DUE.is("it took no strips", x.best(0), 5);
        x.strips(0, 0);
        DUE.refused("there are nine, and no pattern", TURN, x::cut);
        x.sound();
        DUE.refused("there are nine still", TURN, x::cut);
    }

    private static void stripAnswers() {
        says(8, "Of a set-up's strip k (0 first, from the left) what 0 its wanted width's number, 1 the place "
                + "where it begins, 2 where it ends, 3 its weight; -1 when there are not so many.");
        SlitWidths one = with(100, 100, 0, 0, 2);
        one.want(7, 0);
        one.want(100, 1);
        one.cut();
        BoundaryTest.stripIs(one, 0, 0, 1, 0, 100, 100);
        BoundaryTest.stripIs(one, 0, 1, -1, -1, -1, -1);
        BoundaryTest.stripIs(one, 0, MAX, -1, -1, -1, -1);
        SlitWidths most = with(350, 350, 10, 1, 31);
        for (int i = 0; i < 5; i++) {
            most.want(10, 6);
        }
        most.cut();
        BoundaryTest.stripIs(most, 0, 0, 0, 10, 20, 10);
        BoundaryTest.stripIs(most, 0, 5, 0, 65, 75, 10);
        BoundaryTest.stripIs(most, 0, 6, 1, 76, 86, 10);
        BoundaryTest.stripIs(most, 0, 29, 4, 329, 339, 10);
        BoundaryTest.stripIs(most, 0, 30, -1, -1, -1, -1);
        BoundaryTest.stripIs(most, 0, 31, -1, -1, -1, -1);
        DUE.is("30 strips of 10 in 350", most.scrap(0), 50);
        SlitWidths nine = with(10, 1, 0, 0, 2);
        nine.want(10, 6);
        for (int i = 0; i < 9; i++) {
            nine.strips(0, 6);
            nine.coil(10, i + 1, 0, 0, 2);
            nine.cut();
        }
        for (int i = 0; i < 9; i++) {
            BoundaryTest.stripIs(nine, i, 0, 0, 0, 10, i + 1);
            BoundaryTest.stripIs(nine, i, 1, -1, -1, -1, -1);
        }
    }

    private static void stripRefused() {
        says(8, "Index: no such set-up or what, or k is below 0.");
        SlitWidths empty = new SlitWidths();
        DUE.refused("no set-ups", INDEX, () -> empty.strip(0, 0, 0));
        DUE.refused("no set-ups, nor so many strips", INDEX, () -> empty.strip(0, 30, 0));
        SlitWidths x = BoundaryTest.cutOf(0, 0, 100);
        int[][] wrong = {{1, 0, 0}, {-1, 0, 0}, {9, 0, 0}, {MIN, 0, 0}, {MAX, 0, 0},
            {0, -1, 0}, {0, -1, 3}, {0, MIN, 0}, {0, 0, -1}, {0, 0, 4}, {0, 0, MIN}, {0, 0, MAX},
            {0, 1, -1}, {0, 1, 4}, {0, MAX, 4}, {1, MAX, 0}, {1, -1, 4}};
        for (int[] w : wrong) {
            DUE.refused("strip(" + w[0] + ", " + w[1] + ", " + w[2] + ")", INDEX,
                    () -> x.strip(w[0], w[1], w[2]));
        }
    }

    private static void scrap() {
        says(9, "The weight of what is no strip of a set-up (the kilos less all strips' weights).");
        SlitWidths none = with(100, 50000, 0, 0, 40);
        none.want(50, 2);
        none.cut();
        DUE.is("no scrap", none.scrap(0), 0);
        SlitWidths all = with(20000, 1, 1000, 0, 2);
        all.want(18000, 1);
        all.cut();
        DUE.is("one kilo, its last part behind the strip", all.scrap(0), 1);
        SlitWidths kerfs = with(100, 100, 10, 5, 40);
        kerfs.want(20, 3);
        kerfs.cut();
        DUE.is("both trims, two kerfs, and what is left over", kerfs.scrap(0), 40);
        SlitWidths rounded = with(3, 10, 1, 0, 2);
        rounded.want(1, 1);
        rounded.cut();
        DUE.is("10 less 3", rounded.scrap(0), 7);
        SlitWidths gone = with(10, 15, 0, 0, 2);
        gone.want(1, 1);
        gone.cut();
        DUE.is("15 less 1", gone.scrap(0), 14);
        gone.defect(0, 1);
        gone.shift(0);
        DUE.is("15 less 2 where it is shifted", gone.scrap(0), 13);
        says(9, "Index: no such set-up.");
        noSuchSetUp("scrap", SlitWidths::scrap);
    }

    private interface OfSetUp {
        int ask(SlitWidths x, int setup);
    }

    private static void noSuchSetUp(String name, OfSetUp call) {
        SlitWidths x = with(10, 1, 0, 0, 2);
        x.want(10, 6);
        for (int count = 0; count <= 9; count++) {
            int[] noSuch = {-1, count, count + 1, 9, MIN, MAX};
            for (int setup : noSuch) {
                DUE.refused(name + "(" + setup + ") of " + count, INDEX, () -> call.ask(x, setup));
            }
            if (count > 0) {
                int last = count - 1;
                DUE.goes(name + "(" + last + ") of " + count, () -> call.ask(x, last));
                DUE.goes(name + "(0) of " + count, () -> call.ask(x, 0));
            }
            if (count < 9) {
                x.strips(0, 6);
                x.cut();
            }
        }
    }

    private static void moves() {
        says(10, "Moves from a set-up to another one (or to itself: 0).");
        SlitWidths x = with(100, 1, 0, 1, 40);
        x.want(10, 6);
        x.want(76, 0);
        x.cut();
        x.strips(1, 1);
        x.cut();
        DUE.is("to itself, with twelve places", x.moves(0, 0), 0);
        DUE.is("to itself, with two places", x.moves(1, 1), 0);
        DUE.is("two places, one of them new", x.moves(0, 1), 1);
        DUE.is("twelve places, eleven of them new", x.moves(1, 0), 11);
        says(10, "Index: no such set-ups.");
        noSuchSetUp("moves from", (y, setup) -> y.moves(setup, 0));
        noSuchSetUp("moves to", (y, setup) -> y.moves(0, setup));
        noSuchSetUp("moves from and to", (y, setup) -> y.moves(setup, setup));
    }

    private static void order() {
        says(11, "The moves of the order of all set-ups (0 for one, or none).");
        SlitWidths x = with(100, 1, 0, 0, 2);
        DUE.is("none", x.order(), 0);
        x.want(10, 6);
        x.cut();
        DUE.is("one", x.order(), 0);
        x.cut();
        DUE.is("two alike", x.order(), 0);
        x.coil(100, 1, 10, 0, 2);
        x.cut();
        DUE.is("a third with one new place", x.order(), 1);
        x.coil(100, 1, 30, 0, 2);
        x.cut();
        DUE.is("a fourth with two new places", x.order(), 3);
        for (int i = 4; i < 9; i++) {
            x.strips(0, 6);
            x.coil(200, 1, 10 + i * 10, 0, 2);
            x.cut();
        }
        DUE.is("nine: 0 0 10 .. 30 .. 50 60 70 80 90", x.order(), 1 + 2 + 2 + 4);
        DUE.refused("a tenth changes nothing", TURN, x::cut);
        DUE.is("nine still", x.order(), 9);
    }

    private static void ordered() {
        says(12, "The i-th set-up in that order; -1 when there are not so many.");
        SlitWidths x = with(100, 1, 0, 0, 2);
        DUE.is("none", x.ordered(0), -1);
        x.want(10, 6);
        for (int count = 1; count <= 9; count++) {
            x.strips(0, 6);
            x.cut();
            DUE.is("the first of " + count, x.ordered(0), 0);
            DUE.is("the last of " + count, x.ordered(count - 1), count - 1);
            DUE.is("behind the last of " + count, x.ordered(count), -1);
        }
        DUE.is("far behind", x.ordered(MAX), -1);
        SlitWidths turned = with(100, 1, 0, 0, 40);
        turned.want(50, 1);
        turned.want(10, 0);
        turned.cut();
        DUE.is("alone", turned.ordered(0), 0);
        turned.strips(1, 5);
        turned.cut();
        DUE.is("in front", turned.ordered(0), 1);
        DUE.is("behind", turned.ordered(1), 0);
        says(12, "Index: i is below 0.");
        DUE.refused("ordered(-1)", INDEX, () -> turned.ordered(-1));
        DUE.refused("ordered(min)", INDEX, () -> turned.ordered(MIN));
        SlitWidths empty = new SlitWidths();
        DUE.refused("ordered(-1) of none", INDEX, () -> empty.ordered(-1));
        DUE.is("ordered(max) of none", empty.ordered(MAX), -1);
    }

    private static void defect() {
        says(13, "One more defect: how many.");
        SlitWidths x = new SlitWidths();
        DUE.is("the greatest one", x.defect(0, 20000), 1);
        DUE.is("the leftmost least one", x.defect(0, 1), 2);
        DUE.is("the rightmost least one", x.defect(19999, 20000), 3);
        for (int i = 4; i <= 10; i++) {
            DUE.is("the same one again", x.defect(0, 1), i);
        }
        x.sound();
        DUE.is("the first one anew", x.defect(0, 1), 1);
    }

    private static void defectRefused() {
        says(13, "Turn: there are 10; range: places are not 0 .. 20,000, or the second one not behind the "
                + "first.");
        SlitWidths x = new SlitWidths();
        int[][] wrong = {{-1, 0}, {-1, 1}, {0, 20001}, {20000, 20001}, {-1, 20001}, {0, 0}, {7, 7},
            {20000, 20000}, {1, 0}, {20000, 19999}, {20000, 0}, {MIN, MAX}, {MAX, MIN}, {MIN, 1},
            {0, MIN}, {0, MAX}, {MAX, 0}, {MAX, MAX}, {MIN, MIN}};
        for (int[] w : wrong) {
            DUE.refused("defect(" + w[0] + ", " + w[1] + ")", RANGE, () -> x.defect(w[0], w[1]));
        }
        for (int i = 1; i <= 10; i++) {
            DUE.is("one of ten", x.defect(0, 20000), i);
        }
        DUE.refused("there are ten", TURN, () -> x.defect(0, 1));
        DUE.refused("there are ten, and it is none", TURN, () -> x.defect(1, 0));
        DUE.refused("there are ten, and no such place is there", TURN, () -> x.defect(MIN, MAX));
        x.sound();
        DUE.is("there are none", x.defect(0, 1), 1);
    }

    private static void sound() {
        says(14, "Forgets all defects.");
        SlitWidths x = BoundaryTest.cutOf(0, 0, 100);
        DUE.goes("there are none", x::sound);
        DUE.is("there were none", x.defect(0, 1), 1);
        x.sound();
        for (int i = 1; i <= 10; i++) {
            x.defect(0, i * 10);
        }
        DUE.is("behind ten", x.shift(0), 100);
        x.sound();
        DUE.is("the set-up stays till it is shifted", x.strip(0, 0, 1), 100);
        DUE.is("all ten are forgotten", x.shift(0), 0);
        DUE.is("they are counted anew", x.defect(0, 1), 1);
        DUE.is("the forgotten ones stay so", x.shift(0), 1);
        x.sound();
        x.sound();
        DUE.is("twice is as once", x.shift(0), 0);
    }

    private static void shift() {
        says(15, "Shifts a set-up: its left.");
        SlitWidths x = with(300, 300, 0, 0, 2);
        x.want(100, 6);
        x.cut();
        x.cut();
        DUE.is("to where it is", x.shift(0), 0);
        x.defect(0, 7);
        DUE.is("behind a defect", x.shift(0), 7);
        DUE.is("again", x.shift(0), 7);
        BoundaryTest.stripIs(x, 0, 0, 0, 7, 107, 100);
        BoundaryTest.stripIs(x, 1, 0, 0, 0, 100, 100);
        DUE.is("its knives are elsewhere then", x.moves(1, 0), 2);
        DUE.is("and the order has their moves", x.order(), 2);
        DUE.is("the other one", x.shift(1), 7);
        DUE.is("their knives are the same", x.moves(1, 0), 0);
        DUE.is("and the order has no moves", x.order(), 0);
        x.defect(7, 200);
        DUE.is("to the greatest left", x.shift(0), 200);
        BoundaryTest.stripIs(x, 0, 0, 0, 200, 300, 100);
        x.sound();
        DUE.is("back", x.shift(0), 0);
    }

    private static void shiftRefused() {
        says(15, "Index: no such set-up; meaning: there is none such (it stays).");
        noSuchSetUp("shift", SlitWidths::shift);
        SlitWidths x = with(300, 300, 0, 0, 2);
        x.want(100, 6);
        x.cut();
        x.defect(0, 50);
        DUE.is("behind a defect", x.shift(0), 50);
        x.defect(50, 201);
        DUE.refused("no room by one tenth", MEANING, () -> x.shift(0));
        BoundaryTest.stripIs(x, 0, 0, 0, 50, 150, 100);
        DUE.is("its scrap stays", x.scrap(0), 200);
        x.defect(0, 20000);
        DUE.refused("a defect all over", MEANING, () -> x.shift(0));
        BoundaryTest.stripIs(x, 0, 0, 0, 50, 150, 100);
        DUE.is("a set-up may be made all the same", x.cut(), 1);
        BoundaryTest.stripIs(x, 1, 0, 0, 0, 100, 100);
        DUE.is("its moves to the one that stayed", x.moves(1, 0), 2);
    }
}
