/** What 'Terms' says of checks, coils, wanted widths, patterns and the best one, at its boundaries. */
final class TermsBoundaries {
    private static final Due DUE = BoundaryTest.DUE;

    private TermsBoundaries() {
    }

    static void all() {
        checksInTheirOrder();
        placesFromTheLeftEdge();
        widthOfACoil();
        kilosOfACoil();
        trimOfACoil();
        kerfOfACoil();
        knivesOfACoil();
        wantedWidths();
        patternOfWhatIsWanted();
        patternThatFits();
        bestByFill();
        bestByStrips();
        bestByNumbers();
    }

    private static void says(String words) {
        BoundaryTest.says(Document.TERMS, words);
    }

    private static SlitWidths with(int width, int kilos, int trim, int kerf, int knives) {
        return BoundaryTest.with(width, kilos, trim, kerf, knives);
    }

    private static void checksInTheirOrder() {
        says("Checks are made in this order: index: IndexOutOfBoundsException; call out of turn: "
                + "IllegalStateException; range: IllegalArgumentException; meaning (what can't be): "
                + "UnsupportedOperationException.");
        SlitWidths empty = new SlitWidths();
        DUE.refused("index before range, nothing wanted", BoundaryTest.INDEX, () -> empty.strips(0, 7));
        SlitWidths full = RefusalBoundaries.full();
        DUE.refused("index before range, below", BoundaryTest.INDEX, () -> full.strips(-1, -1));
        DUE.refused("index before range, above", BoundaryTest.INDEX, () -> full.strips(5, 7));
        DUE.refused("range, with a right index", BoundaryTest.RANGE, () -> full.strips(4, 7));
        DUE.refused("turn before range, width", BoundaryTest.TURN, () -> full.want(0, 1));
        DUE.refused("turn before range, strips", BoundaryTest.TURN, () -> full.want(1, 7));
        DUE.refused("turn before range, place", BoundaryTest.TURN, () -> full.defect(-1, 20001));
        DUE.refused("turn before range, order of places", BoundaryTest.TURN, () -> full.defect(5, 5));
        for (int i = 0; i < 5; i++) {
            full.strips(i, 0);
        }
        DUE.is("there is no pattern", full.fill(), 0);
        DUE.refused("turn before meaning", BoundaryTest.TURN, full::cut);
        SlitWidths stuck = BoundaryTest.cutOf(0, 0, 1000);
        stuck.defect(0, 1);
        DUE.refused("meaning, with a right index", BoundaryTest.MEANING, () -> stuck.shift(0));
        DUE.refused("index before meaning, above", BoundaryTest.INDEX, () -> stuck.shift(1));
        DUE.refused("index before meaning, below", BoundaryTest.INDEX, () -> stuck.shift(-1));
    }

    private static void placesFromTheLeftEdge() {
        says("Widths and places across are told in tenths of a millimetre, places from the left edge on.");
        SlitWidths least = with(1, 1, 0, 0, 2);
        least.want(1, 1);
        least.cut();
        BoundaryTest.stripIs(least, 0, 0, 0, 0, 1, 1);
        SlitWidths greatest = with(20000, 1, 0, 0, 2);
        greatest.want(20000, 1);
        greatest.cut();
        BoundaryTest.stripIs(greatest, 0, 0, 0, 0, 20000, 1);
    }

    private static void widthOfACoil() {
        says("A COIL has a WIDTH (1 .. 20,000; 10,000 at first)");
        SlitWidths x = new SlitWidths();
        x.want(9900, 1);
        DUE.is("10,000 at first, with trims of 50", x.fill(), 9900);
        SlitWidths y = new SlitWidths();
        y.want(9901, 1);
        DUE.is("not more at first", y.fill(), 0);
        SlitWidths z = with(1, 1, 0, 0, 2);
        z.want(1, 1);
        z.want(20000, 1);
        z.want(19999, 1);
        DUE.is("the least width", z.fill(), 1);
        BoundaryTest.refusesCoil(z, 0, 1, 0, 0, 2);
        BoundaryTest.refusesCoil(z, -1, 1, 0, 0, 2);
        BoundaryTest.takesCoil(z, 20000, 1, 0, 0, 2);
        DUE.is("the greatest width", z.fill(), 20000);
        BoundaryTest.refusesCoil(z, 20001, 1, 0, 0, 2);
        BoundaryTest.takesCoil(z, 19999, 1, 0, 0, 2);
        DUE.is("one less than the greatest", z.fill(), 19999);
    }

    private static void kilosOfACoil() {
        says("KILOS (1 .. 50,000; 10,000)");
        SlitWidths x = new SlitWidths();
        x.want(1, 1);
        x.cut();
        DUE.is("10,000 at first", x.scrap(0) + x.strip(0, 0, 3), 10000);
        SlitWidths y = new SlitWidths();
        BoundaryTest.refusesCoil(y, 1, 0, 0, 0, 2);
        BoundaryTest.refusesCoil(y, 1, -1, 0, 0, 2);
        BoundaryTest.refusesCoil(y, 1, 50001, 0, 0, 2);
        BoundaryTest.takesCoil(y, 1, 1, 0, 0, 2);
        y.want(1, 2);
        y.cut();
        DUE.is("the least kilos", y.strip(0, 0, 3), 1);
        BoundaryTest.takesCoil(y, 1, 50000, 0, 0, 2);
        y.cut();
        DUE.is("the greatest kilos", y.strip(1, 0, 3), 50000);
    }

    private static void trimOfACoil() {
        says("a TRIM (0 .. 1,000; 50) that each side loses at least");
        SlitWidths x = new SlitWidths();
        x.want(1, 1);
        x.cut();
        DUE.is("50 at first", x.strip(0, 0, 1), 50);
        SlitWidths y = new SlitWidths();
        BoundaryTest.refusesCoil(y, 1, 1, -1, 0, 2);
        BoundaryTest.refusesCoil(y, 1, 1, 1001, 0, 2);
        y.want(1, 1);
        y.want(2, 1);
        BoundaryTest.takesCoil(y, 1, 1, 0, 0, 2);
        DUE.is("the least trim leaves the whole width", y.fill(), 1);
        BoundaryTest.takesCoil(y, 2000, 1, 1000, 0, 2);
        DUE.is("the greatest trim on both sides leaves nothing", y.fill(), 0);
        BoundaryTest.takesCoil(y, 2001, 1, 1000, 0, 2);
        DUE.is("the greatest trim on both sides leaves one tenth", y.fill(), 1);
        y.cut();
        DUE.is("the greatest trim is the left", y.strip(0, 0, 1), 1000);
        SlitWidths z = new SlitWidths();
        z.want(1, 1);
        DUE.is("a pattern at first", z.fill(), 1);
        BoundaryTest.takesCoil(z, 1, 1, 1, 0, 2);
        DUE.is("trims above the width leave nothing", z.fill(), 0);
        DUE.is("and no strips", z.best(0), 0);
        DUE.refused("and no set-up", BoundaryTest.MEANING, z::cut);
        BoundaryTest.takesCoil(z, 3, 1, 1, 0, 2);
        DUE.is("a pattern again", z.fill(), 1);
        BoundaryTest.takesCoil(z, 1, 1, 1000, 100, 40);
        DUE.is("trims far above the width leave nothing", z.fill(), 0);
        DUE.is("and no strips in it", z.best(0), 0);
        DUE.refused("and no set-up of it", BoundaryTest.MEANING, z::cut);
    }

    private static void kerfOfACoil() {
        says("a KERF (0 .. 100; 0) between two strips");
        SlitWidths x = new SlitWidths();
        x.want(10, 2);
        x.cut();
        DUE.is("0 at first", x.strip(0, 1, 1), 60);
        SlitWidths y = new SlitWidths();
        BoundaryTest.refusesCoil(y, 1, 1, 0, -1, 2);
        BoundaryTest.refusesCoil(y, 1, 1, 0, 101, 2);
        y.want(10, 2);
        BoundaryTest.takesCoil(y, 20, 1, 0, 0, 3);
        DUE.is("the least kerf", y.fill(), 20);
        BoundaryTest.takesCoil(y, 20, 1, 0, 1, 3);
        DUE.is("no room for a kerf of one", y.fill(), 10);
        BoundaryTest.takesCoil(y, 119, 1, 0, 100, 3);
        DUE.is("no room for the greatest kerf", y.fill(), 10);
        BoundaryTest.takesCoil(y, 120, 1, 0, 100, 3);
        DUE.is("the greatest kerf", y.fill(), 120);
        y.cut();
        BoundaryTest.stripIs(y, 0, 0, 0, 0, 10);
        BoundaryTest.stripIs(y, 0, 1, 0, 110, 120);
        SlitWidths lone = with(10, 1, 0, 100, 2);
        lone.want(10, 1);
        DUE.is("one strip has no kerf", lone.fill(), 10);
        lone.coil(9, 1, 0, 100, 2);
        DUE.is("a kerf makes no room for one strip", lone.fill(), 0);
    }

    private static void knivesOfACoil() {
        says("KNIVES (2 .. 40; 20): a pattern with n strips needs n + 1.");
        SlitWidths x = new SlitWidths();
        for (int i = 0; i < 5; i++) {
            x.want(1, 6);
        }
        DUE.is("20 at first let 19 strips", x.fill(), 19);
        BoundaryTest.refusesCoil(x, 100, 1, 0, 0, 1);
        BoundaryTest.refusesCoil(x, 100, 1, 0, 0, 0);
        BoundaryTest.refusesCoil(x, 100, 1, 0, 0, 41);
        for (int knives = 2; knives <= 31; knives++) {
            BoundaryTest.takesCoil(x, 100, 1, 0, 0, knives);
            DUE.is(knives + " knives", x.fill(), knives - 1);
        }
        BoundaryTest.takesCoil(x, 100, 1, 0, 0, 40);
        DUE.is("40 knives let all 30 strips that can be wanted", x.fill(), 30);
    }

    private static void wantedWidths() {
        says("WANTED widths 0, 1, .. (at most 5) have a width (1 .. 20,000) and STRIPS that are still "
                + "wanted (0 .. 6).");
        SlitWidths x = with(20000, 1, 0, 0, 40);
        DUE.refused("width 0", BoundaryTest.RANGE, () -> x.want(0, 1));
        DUE.refused("width 20,001", BoundaryTest.RANGE, () -> x.want(20001, 1));
        DUE.refused("strips -1", BoundaryTest.RANGE, () -> x.want(1, -1));
        DUE.refused("strips 7", BoundaryTest.RANGE, () -> x.want(1, 7));
        DUE.is("the least strips", x.want(1, 0), 0);
        DUE.is("none of them", x.fill(), 0);
        DUE.is("the least width, the greatest strips", x.want(1, 6), 1);
        DUE.is("six of them", x.fill(), 6);
        DUE.is("the greatest width", x.want(20000, 1), 2);
        DUE.is("one of it", x.fill(), 20000);
        DUE.is("the fourth", x.want(1, 1), 3);
        DUE.is("the fifth", x.want(1, 1), 4);
        DUE.refused("no sixth", BoundaryTest.TURN, () -> x.want(1, 1));
    }

    private static void patternOfWhatIsWanted() {
        says("A PATTERN has so many strips of each wanted width (not more than are wanted), one at least, "
                + "not more than its knives let");
        SlitWidths x = with(20000, 1, 0, 0, 40);
        DUE.is("nothing wanted", x.fill(), 0);
        DUE.refused("nothing wanted, no pattern", BoundaryTest.MEANING, x::cut);
        x.want(10, 0);
        x.want(1000, 0);
        DUE.is("no strips wanted", x.fill(), 0);
        DUE.refused("no strips wanted, no pattern", BoundaryTest.MEANING, x::cut);
        x.strips(0, 1);
        DUE.is("one at least", x.fill(), 10);
        BoundaryTest.bestIs(x, 1, 0);
        x.strips(0, 6);
        DUE.is("not more than are wanted", x.fill(), 60);
        x.coil(20000, 1, 0, 0, 7);
        DUE.is("as many as seven knives let", x.fill(), 60);
        x.coil(20000, 1, 0, 0, 6);
        DUE.is("not more than six knives let", x.fill(), 50);
        x.strips(1, 1);
        DUE.is("with six knives, four narrow ones beside a wide one", x.fill(), 1040);
        x.coil(20000, 1, 0, 0, 2);
        DUE.is("with two knives the wide one alone", x.fill(), 1000);
    }

    private static void patternThatFits() {
        says("whose widths and the kerfs between them together are not above the coil's width less both "
                + "trims: its FILL is that sum.");
        SlitWidths x = with(20 + 90 + 10, 1, 10, 5, 40);
        x.want(30, 3);
        DUE.is("three and two kerfs just fit", x.fill(), 100);
        x.coil(20 + 90 + 9, 1, 10, 5, 40);
        DUE.is("one tenth less: two and one kerf", x.fill(), 65);
        x.coil(20 + 60 + 5, 1, 10, 5, 40);
        DUE.is("two and one kerf just fit", x.fill(), 65);
        x.coil(20 + 60 + 4, 1, 10, 5, 40);
        DUE.is("one tenth less: one and no kerf", x.fill(), 30);
        x.coil(20 + 30, 1, 10, 5, 40);
        DUE.is("one just fits", x.fill(), 30);
        x.coil(20 + 29, 1, 10, 5, 40);
        DUE.is("one tenth less: none", x.fill(), 0);
        SlitWidths wide = with(20000, 1, 0, 100, 40);
        for (int i = 0; i < 5; i++) {
            wide.want(570, 6);
        }
        DUE.is("30 of 570 and 29 kerfs of 100 just fit the greatest coil", wide.fill(), 20000);
        wide.coil(19999, 1, 0, 100, 40);
        DUE.is("one tenth less: 29 and 28 kerfs", wide.fill(), 29 * 570 + 28 * 100);
        SlitWidths far = with(20000, 1, 0, 0, 40);
        for (int i = 0; i < 5; i++) {
            far.want(20000, 6);
        }
        DUE.is("thirty of the greatest width: one fits", far.fill(), 20000);
    }

    private static void bestByFill() {
        says("THE BEST has the greatest fill;");
        SlitWidths x = with(61, 1, 0, 0, 40);
        x.want(60, 1);
        x.want(10, 5);
        x.want(11, 1);
        DUE.is("one tenth more fill beats fewer strips", x.fill(), 61);
        BoundaryTest.bestIs(x, 0, 5, 1);
        SlitWidths y = with(60, 1, 0, 1, 40);
        y.want(57, 1);
        y.want(19, 3);
        DUE.is("kerfs are fill", y.fill(), 59);
        BoundaryTest.bestIs(y, 0, 3);
    }

    private static void bestByStrips() {
        says("of these the fewest strips;");
        SlitWidths x = with(60, 1, 0, 0, 40);
        x.want(10, 6);
        x.want(20, 3);
        x.want(30, 2);
        BoundaryTest.bestIs(x, 0, 0, 2);
        x.want(60, 1);
        BoundaryTest.bestIs(x, 0, 0, 0, 1);
        SlitWidths y = with(61, 1, 0, 1, 40);
        y.want(30, 2);
        y.want(61, 1);
        DUE.is("as much with kerfs as without", y.fill(), 61);
        BoundaryTest.bestIs(y, 0, 1);
    }

    private static void bestByNumbers() {
        says("of these the one with the most strips of wanted width 0, then of 1, and so on.");
        SlitWidths x = with(60, 1, 0, 0, 40);
        x.want(10, 1);
        x.want(20, 1);
        x.want(40, 1);
        x.want(50, 1);
        BoundaryTest.bestIs(x, 1, 0, 0, 1);
        SlitWidths next = with(60, 1, 0, 0, 40);
        next.want(40, 1);
        next.want(10, 1);
        next.want(50, 1);
        next.want(20, 1);
        BoundaryTest.bestIs(next, 1, 0, 0, 1);
        SlitWidths same = with(50, 1, 0, 0, 40);
        for (int i = 0; i < 5; i++) {
            same.want(10, 2);
        }
        BoundaryTest.bestIs(same, 2, 2, 1, 0, 0);
        same.strips(0, 0);
        BoundaryTest.bestIs(same, 0, 2, 2, 1, 0);
        same.strips(1, 0);
        same.strips(2, 0);
        BoundaryTest.bestIs(same, 0, 0, 0, 2, 2);
        same.strips(3, 6);
        same.strips(4, 6);
        BoundaryTest.bestIs(same, 0, 0, 0, 5, 0);
    }
}
