/** What 'Terms' says of set-ups, knives, moves, orders, defects, shifts and weights, at its boundaries. */
final class PlanBoundaries {
    private static final Due DUE = BoundaryTest.DUE;

    private PlanBoundaries() {
    }

    static void all() {
        cutTakesWhatIsWanted();
        stripsLieInOrder();
        setUpsAreNumbered();
        knivesStandOnce();
        movesAreNewPlaces();
        orderHasFewestMoves();
        orderIsFirstByNumbers();
        defectsEndBeforeTheirSecondPlace();
        leastLeft();
        noStretchInCommon();
        manyStripsAndDefects();
        weightOfAStretch();
        setUpKeepsItsCoil();
    }

    private static void says(String words) {
        BoundaryTest.says(Document.TERMS, words);
    }

    private static SlitWidths with(int width, int kilos, int trim, int kerf, int knives) {
        return BoundaryTest.with(width, kilos, trim, kerf, knives);
    }

    private static void cutTakesWhatIsWanted() {
        says("A SET-UP cuts a coil by the best pattern: what is wanted gets so many fewer.");
        SlitWidths x = with(40, 1, 0, 0, 40);
        x.want(10, 6);
        x.want(30, 1);
        BoundaryTest.bestIs(x, 1, 1);
        x.cut();
        DUE.is("the pattern's first strip", x.strip(0, 0, 0), 0);
        DUE.is("the pattern's second strip", x.strip(0, 1, 0), 1);
        x.coil(1000, 1, 0, 0, 40);
        BoundaryTest.bestIs(x, 5, 0);
        x.cut();
        BoundaryTest.bestIs(x, 0, 0);
        DUE.refused("none is wanted any more", BoundaryTest.MEANING, x::cut);
        x.strips(1, 6);
        BoundaryTest.bestIs(x, 0, 6);
    }

    private static void stripsLieInOrder() {
        says("Its strips lie in order of wanted widths from the left trim on (its LEFT, the trim at first), "
                + "with kerfs between.");
        SlitWidths x = with(200, 1, 7, 3, 40);
        x.want(30, 1);
        x.want(10, 2);
        x.want(20, 0);
        x.want(40, 1);
        x.cut();
        BoundaryTest.stripIs(x, 0, 0, 0, 7, 37);
        BoundaryTest.stripIs(x, 0, 1, 1, 40, 50);
        BoundaryTest.stripIs(x, 0, 2, 1, 53, 63);
        BoundaryTest.stripIs(x, 0, 3, 3, 66, 106);
        BoundaryTest.stripIs(x, 0, 4, -1, -1, -1);
    }

    private static void setUpsAreNumbered() {
        says("Set-ups are numbered 0, 1, .. (at most 9).");
        SlitWidths x = with(10, 1, 0, 0, 2);
        x.want(10, 6);
        for (int i = 0; i < 9; i++) {
            int none = i;
            DUE.refused("no set-up " + i + " yet", BoundaryTest.INDEX, () -> x.scrap(none));
            DUE.is("cut()", x.cut(), i);
            DUE.is("set-up " + i, x.scrap(i), 0);
            x.strips(0, 6);
        }
        DUE.refused("no tenth", BoundaryTest.TURN, x::cut);
        DUE.refused("no set-up 9", BoundaryTest.INDEX, () -> x.scrap(9));
    }

    /** All knives of a second set-up: the first one's lie behind them. */
    private static void knivesAre(int due, int kerf, int... widths) {
        SlitWidths x = with(20000, 1, 1000, 0, 2);
        x.want(1, 1);
        x.cut();
        x.coil(900, 1, 0, kerf, 40);
        for (int i = 0; i < widths.length; i++) {
            x.want(widths[i], 1);
        }
        x.cut();
        DUE.is("knives with a kerf of " + kerf, x.moves(0, 1), due);
    }

    private static void knivesStandOnce() {
        says("THE KNIVES of a set-up are the places where a strip begins or ends (each place once).");
        knivesAre(2, 0, 10);
        knivesAre(2, 100, 10);
        knivesAre(3, 0, 10, 10);
        knivesAre(4, 1, 10, 10);
        knivesAre(5, 0, 10, 20, 30, 40);
        knivesAre(8, 1, 10, 20, 30, 40);
        knivesAre(8, 1, 1, 1, 1, 1);
        SlitWidths x = ofThirtyStrips();
        DUE.is("thirty strips with kerfs have sixty", x.moves(1, 0), 60);
        DUE.is("thirty strips without kerfs have 31", x.moves(2, 1), 31);
    }

    /** Set-ups of thirty strips with kerfs, of thirty without them behind it, of one behind both. */
    private static SlitWidths ofThirtyStrips() {
        SlitWidths x = with(400, 400, 0, 1, 40);
        for (int i = 0; i < 5; i++) {
            x.want(10, 6);
        }
        x.cut();
        x.coil(20000, 20000, 400, 0, 40);
        for (int i = 0; i < 5; i++) {
            x.strips(i, 6);
        }
        x.cut();
        x.coil(20000, 20000, 1000, 0, 2);
        x.strips(0, 1);
        x.cut();
        return x;
    }

    private static void movesAreNewPlaces() {
        says("MOVES from a set-up to another one: how many places of knives of the second the first one "
                + "has not.");
        SlitWidths x = with(100, 1, 0, 0, 40);
        x.want(20, 3);
        x.want(40, 0);
        x.want(60, 0);
        x.cut();
        x.strips(1, 1);
        x.cut();
        DUE.is("0 20 40 60 to 0 40: none is new", x.moves(0, 1), 0);
        DUE.is("0 40 to 0 20 40 60: two are new", x.moves(1, 0), 2);
        x.coil(1000, 1, 60, 0, 40);
        x.strips(1, 1);
        x.cut();
        DUE.is("0 20 40 60 to 60 100: the last one is there", x.moves(0, 2), 1);
        DUE.is("60 100 to 0 20 40 60: the first one is there", x.moves(2, 0), 3);
        DUE.is("0 40 to 60 100: all are new", x.moves(1, 2), 2);
        x.coil(1000, 1, 1, 0, 40);
        x.strips(1, 1);
        x.cut();
        DUE.is("0 40 to 1 41: one tenth beside is new", x.moves(1, 3), 2);
        DUE.is("to itself", x.moves(3, 3), 0);
        SlitWidths kerfs = with(100, 1, 0, 20, 40);
        kerfs.want(20, 2);
        kerfs.want(60, 0);
        kerfs.cut();
        kerfs.strips(1, 1);
        kerfs.cut();
        DUE.is("0 20 40 60 to 0 60", kerfs.moves(0, 1), 0);
        DUE.is("0 60 to 0 20 40 60", kerfs.moves(1, 0), 2);
        SlitWidths most = ofThirtyStrips();
        DUE.is("behind all sixty places", most.moves(0, 2), 2);
        DUE.is("sixty places to themselves", most.moves(0, 0), 0);
    }

    /** Set-ups of one strip each: begins at the trim, ends a width behind it. */
    private static SlitWidths ofLoneStrips(int[]... trimsAndWidths) {
        SlitWidths x = new SlitWidths();
        for (int i = 0; i < 5; i++) {
            x.want((i + 1) * 10, 0);
        }
        for (int[] t : trimsAndWidths) {
            x.coil(20000, 1, t[0], 0, 2);
            x.strips(t[1] / 10 - 1, 1);
            x.cut();
        }
        return x;
    }

    private static int[] lone(int trim, int width) {
        return new int[] {trim, width};
    }

    private static void orderHasFewestMoves() {
        says("THE ORDER of all set-ups: each once, so that the moves from each to the next one, summed, are "
                + "fewest;");
        BoundaryTest.orderIs(new SlitWidths(), 0);
        BoundaryTest.orderIs(ofLoneStrips(lone(0, 10)), 0, 0);
        BoundaryTest.orderIs(ofLoneStrips(lone(0, 10), lone(0, 10)), 0, 0, 1);
        BoundaryTest.orderIs(ofLoneStrips(lone(0, 10), lone(20, 10), lone(0, 10)), 2, 0, 2, 1);
        BoundaryTest.orderIs(ofLoneStrips(lone(30, 30), lone(0, 10), lone(60, 40), lone(10, 20)),
                3, 1, 3, 0, 2);
        SlitWidths falling = with(100, 1, 0, 0, 40);
        falling.want(50, 1);
        falling.want(10, 0);
        falling.cut();
        falling.strips(1, 5);
        falling.cut();
        BoundaryTest.orderIs(falling, 0, 1, 0);
        SlitWidths chain = ofLoneStrips(lone(80, 10), lone(70, 10), lone(60, 10), lone(50, 10),
                lone(40, 10), lone(30, 10), lone(20, 10), lone(10, 10), lone(0, 10));
        BoundaryTest.orderIs(chain, 8, 0, 1, 2, 3, 4, 5, 6, 7, 8);
        SlitWidths mixed = ofLoneStrips(lone(10, 10), lone(60, 10), lone(30, 10), lone(0, 10),
                lone(80, 10), lone(20, 10), lone(50, 10), lone(70, 10), lone(40, 10));
        BoundaryTest.orderIs(mixed, 8, 3, 0, 5, 2, 8, 6, 1, 7, 4);
    }

    private static void orderIsFirstByNumbers() {
        says("of these the first by numbers (the lowest first one, then the lowest next one, ..).");
        SlitWidths apart = ofLoneStrips(lone(0, 10), lone(20, 10), lone(40, 10), lone(60, 10),
                lone(80, 10), lone(100, 10), lone(120, 10), lone(140, 10), lone(160, 10));
        BoundaryTest.orderIs(apart, 16, 0, 1, 2, 3, 4, 5, 6, 7, 8);
        SlitWidths alike = ofLoneStrips(lone(0, 10), lone(0, 10), lone(0, 10), lone(0, 10),
                lone(0, 10), lone(0, 10), lone(0, 10), lone(0, 10), lone(0, 10));
        BoundaryTest.orderIs(alike, 0, 0, 1, 2, 3, 4, 5, 6, 7, 8);
        SlitWidths pairs = ofLoneStrips(lone(40, 10), lone(0, 10), lone(20, 10), lone(0, 10),
                lone(40, 10));
        BoundaryTest.orderIs(pairs, 4, 0, 4, 1, 3, 2);
        SlitWidths lastMatters = ofLoneStrips(lone(0, 10), lone(200, 10), lone(100, 10), lone(100, 10),
                lone(300, 10), lone(200, 10));
        BoundaryTest.orderIs(lastMatters, 6, 0, 1, 5, 2, 3, 4);
    }

    private static void defectsEndBeforeTheirSecondPlace() {
        says("DEFECTS, at most 10, are stretches across from one place to another one (itself not).");
        SlitWidths x = BoundaryTest.cutOf(100, 0, 50);
        for (int i = 1; i <= 10; i++) {
            DUE.is("defect " + i, x.defect(0, 100), i);
        }
        DUE.refused("an eleventh", BoundaryTest.TURN, () -> x.defect(0, 100));
        DUE.is("a defect to the strip's begin is none in it", x.shift(0), 100);
        x.sound();
        x.defect(99, 101);
        DUE.is("a defect to one behind it has its first tenth", x.shift(0), 101);
        x.sound();
        x.defect(150, 1000);
        DUE.is("a defect from the strip's end on is none in it", x.shift(0), 100);
        x.defect(149, 150);
        DUE.refused("one from before its end has its last tenth", BoundaryTest.MEANING,
                () -> x.shift(0));
        SlitWidths all = BoundaryTest.cutOf(0, 0, 1);
        for (int i = 0; i < 9; i++) {
            all.defect(2 * i, 2 * i + 2);
        }
        DUE.is("behind nine", all.shift(0), 18);
        all.defect(18, 19);
        DUE.is("behind ten", all.shift(0), 19);
    }

    private static void leastLeft() {
        says("SHIFTING a set-up finds the least left (the trim or more, with the right side's trim kept)");
        SlitWidths x = with(1000, 1000, 100, 0, 40);
        x.want(500, 1);
        x.cut();
        DUE.is("the trim, without a defect", x.shift(0), 100);
        x.defect(0, 100);
        DUE.is("the trim, with a defect in all of it", x.shift(0), 100);
        x.defect(100, 101);
        DUE.is("one more than the trim", x.shift(0), 101);
        x.defect(101, 399);
        DUE.is("one less than the greatest left", x.shift(0), 399);
        x.defect(399, 400);
        DUE.is("the greatest left: the right side keeps its trim", x.shift(0), 400);
        x.defect(900, 1000);
        DUE.is("a defect in all of the right side's trim", x.shift(0), 400);
        x.defect(400, 401);
        DUE.refused("none beyond", BoundaryTest.MEANING, () -> x.shift(0));
        x.sound();
        DUE.is("back to the trim, not before it", x.shift(0), 100);
        SlitWidths tight = with(1000, 1000, 100, 0, 40);
        tight.want(800, 1);
        tight.cut();
        DUE.is("the only left", tight.shift(0), 100);
        tight.defect(100, 101);
        DUE.refused("no other left", BoundaryTest.MEANING, () -> tight.shift(0));
        SlitWidths kerfs = with(1000, 1000, 0, 100, 40);
        kerfs.want(400, 2);
        kerfs.cut();
        kerfs.defect(0, 100);
        DUE.is("kerfs are in what the right side's trim lies behind", kerfs.shift(0), 100);
        kerfs.defect(100, 101);
        DUE.refused("one more is too much", BoundaryTest.MEANING, () -> kerfs.shift(0));
    }

    private static void noStretchInCommon() {
        says("for which no defect and no strip have a stretch in common: that is its left then.");
        SlitWidths x = BoundaryTest.cutOf(100, 50, 200, 300);
        DUE.is("strips 100 .. 300 and 350 .. 650", x.strip(0, 1, 1), 350);
        x.defect(300, 350);
        DUE.is("a defect in all of the kerf", x.shift(0), 100);
        x.sound();
        x.defect(300, 351);
        DUE.refused("one tenth wider than the kerf meets one strip or the other, and no room is behind",
                BoundaryTest.MEANING, () -> x.shift(0));
        x.sound();
        x.defect(301, 351);
        DUE.is("in the second strip's first tenth", x.shift(0), 101);
        DUE.is("that is its left then", x.strip(0, 0, 1), 101);
        DUE.is("the second strip too", x.strip(0, 1, 1), 351);
        x.sound();
        x.defect(299, 349);
        DUE.is("in the first strip's last tenth: behind it", x.shift(0), 349);
        SlitWidths within = BoundaryTest.cutOf(0, 0, 100);
        within.defect(50, 51);
        DUE.is("a defect within a strip", within.shift(0), 51);
        SlitWidths around = BoundaryTest.cutOf(0, 0, 100);
        around.defect(0, 900);
        DUE.is("a strip within a defect", around.shift(0), 900);
        around.sound();
        around.defect(0, 901);
        DUE.refused("no room behind it", BoundaryTest.MEANING, () -> around.shift(0));
        SlitWidths gap = BoundaryTest.cutOf(0, 0, 100);
        gap.defect(0, 400);
        gap.defect(499, 600);
        DUE.is("a gap of 99 is too narrow", gap.shift(0), 600);
        gap.sound();
        gap.defect(500, 600);
        gap.defect(0, 400);
        DUE.is("a gap of 100 is enough", gap.shift(0), 400);
    }

    private static void manyStripsAndDefects() {
        says("for which no defect and no strip have a stretch in common: that is its left then.");
        SlitWidths most = ofThirtyStrips();
        most.defect(0, 1);
        most.defect(9, 10);
        DUE.is("thirty strips behind two defects", most.shift(0), 10);
        most.defect(328, 329);
        DUE.is("a defect in the last kerf, between 318 .. 328 and 329 .. 339", most.shift(0), 10);
        most.defect(339, 340);
        DUE.is("a defect right behind the last strip", most.shift(0), 10);
        most.defect(338, 339);
        DUE.refused("one in its last tenth: no left has both in kerfs", BoundaryTest.MEANING,
                () -> most.shift(0));
        SlitWidths far = with(1000, 1, 0, 1, 26);
        int[][] wanted = {{3, 5}, {5, 4}, {5, 6}, {1, 4}, {5, 6}};
        for (int[] w : wanted) {
            far.want(w[0], w[1]);
        }
        far.cut();
        int[][] defects = {{10, 12}, {76, 81}, {147, 150}, {156, 157}, {254, 256}, {376, 378}};
        for (int[] d : defects) {
            far.defect(d[0], d[1]);
        }
        DUE.is("25 strips, each of which meets defects again and again", far.shift(0), 378);
    }

    private static void weightOfAStretch() {
        says("THE WEIGHT of a stretch of a coil from place a to b: the kilos times b over the width, rounded "
                + "down, less the kilos times a over it, rounded down.");
        SlitWidths thirds = with(3, 10, 0, 0, 40);
        thirds.want(1, 3);
        thirds.cut();
        DUE.is("0 .. 1", thirds.strip(0, 0, 3), 3);
        DUE.is("1 .. 2", thirds.strip(0, 1, 3), 3);
        DUE.is("2 .. 3 has what rounding left", thirds.strip(0, 2, 3), 4);
        SlitWidths light = with(20000, 1, 0, 0, 40);
        light.want(19999, 1);
        light.want(1, 1);
        light.cut();
        DUE.is("all but the last tenth of one kilo", light.strip(0, 0, 3), 0);
        DUE.is("the last tenth of one kilo", light.strip(0, 1, 3), 1);
        SlitWidths heavy = with(20000, 50000, 0, 0, 40);
        heavy.want(19999, 1);
        heavy.want(1, 1);
        heavy.cut();
        DUE.is("19,999 times 2.5, rounded down", heavy.strip(0, 0, 3), 49997);
        DUE.is("what rounding left", heavy.strip(0, 1, 3), 3);
        SlitWidths narrow = with(2, 49999, 0, 0, 40);
        narrow.want(1, 2);
        narrow.cut();
        DUE.is("half of 49,999", narrow.strip(0, 0, 3), 24999);
        DUE.is("the other half", narrow.strip(0, 1, 3), 25000);
        SlitWidths moved = with(10, 15, 0, 0, 40);
        moved.want(1, 1);
        moved.cut();
        DUE.is("0 .. 1 of 1.5 a tenth", moved.strip(0, 0, 3), 1);
        moved.defect(0, 1);
        moved.shift(0);
        DUE.is("1 .. 2 of 1.5 a tenth: both are rounded down", moved.strip(0, 0, 3), 2);
    }

    private static void keeps(String what, int... later) {
        SlitWidths x = with(200, 100, 10, 20, 40);
        x.want(40, 2);
        x.cut();
        x.coil(later[0], later[1], later[2], later[3], later[4]);
        BoundaryTest.stripIs(x, 0, 0, 0, 10, 50, 20);
        BoundaryTest.stripIs(x, 0, 1, 0, 70, 110, 20);
        DUE.is(what + ": scrap", x.scrap(0), 60);
        DUE.is(what + ": the least left", x.shift(0), 10);
        x.defect(0, 90);
        DUE.is(what + ": the greatest left", x.shift(0), 90);
        BoundaryTest.stripIs(x, 0, 1, 0, 150, 190, 20);
        x.defect(90, 91);
        DUE.refused(what + ": one beyond", BoundaryTest.MEANING, () -> x.shift(0));
    }

    private static void setUpKeepsItsCoil() {
        says("A set-up keeps the coil's width, kilos and trim, and the kerf, as they were when it was made.");
        keeps("width, less", 1, 100, 10, 20, 40);
        keeps("width, more", 20000, 100, 10, 20, 40);
        keeps("kilos, less", 200, 1, 10, 20, 40);
        keeps("kilos, more", 200, 50000, 10, 20, 40);
        keeps("trim, less", 200, 100, 0, 20, 40);
        keeps("trim, more", 200, 100, 1000, 20, 40);
        keeps("kerf, less", 200, 100, 10, 0, 40);
        keeps("kerf, more", 200, 100, 10, 100, 40);
        keeps("knives, less", 200, 100, 10, 20, 2);
        keeps("all", 20000, 50000, 1000, 100, 2);
    }
}
