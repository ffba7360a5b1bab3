/** What the document's first sentence says of the class as a whole. */
final class OverviewBoundaries {
    private static final Due DUE = BoundaryTest.DUE;
    private static final int[] KILOS = {1, 2, 6, 7, 999, 1000, 1001, 49_999, 50_000};

    private OverviewBoundaries() {
    }

    static void all() {
        patternsByExactSearch();
        orderWithTheFewestMoves();
        defectsFallIntoTrims();
        weightsSumToTheCoils();
        weightsSumWhereverItIsShifted();
    }

    private static void says(String words) {
        BoundaryTest.says(Document.WHAT_IT_IS, words);
    }

    /** Taking the widest first, or the narrowest first, would end at 90. */
    private static void patternsByExactSearch() {
        says("patterns by exact search");
        SlitWidths x = BoundaryTest.with(100, 100, 0, 0, 40);
        x.want(60, 1);
        x.want(50, 2);
        x.want(30, 3);
        DUE.is("fill()", x.fill(), 100);
        BoundaryTest.bestIs(x, 0, 2, 0);
    }

    /** Their places are 0, 10, 30; 0, 10, 50; 0, 10, 30, 70: to begin with 0 or 1 takes two or more. */
    private static void orderWithTheFewestMoves() {
        says("the order of set-ups with the fewest knife moves");
        SlitWidths x = BoundaryTest.with(100, 100, 0, 0, 40);
        x.want(10, 0);
        x.want(20, 0);
        x.want(40, 0);
        cut(x, 1, 1, 0);
        cut(x, 1, 0, 1);
        cut(x, 1, 1, 1);
        BoundaryTest.orderIs(x, 1, 2, 0, 1);
    }

    private static void cut(SlitWidths x, int... strips) {
        for (int i = 0; i < strips.length; i++) {
            x.strips(i, strips[i]);
        }
        x.cut();
    }

    private static void defectsFallIntoTrims() {
        says("defects that fall into trims by shifting");
        SlitWidths x = BoundaryTest.with(1000, 1000, 50, 0, 40);
        x.want(100, 6);
        x.cut();
        DUE.is("the defect on the left", x.defect(0, 130), 1);
        DUE.is("the defect on the right", x.defect(730, 1000), 2);
        DUE.is("shift(0)", x.shift(0), 130);
        DUE.is("the first strip begins", x.strip(0, 0, 1), 130);
        DUE.is("the last strip ends", x.strip(0, 5, 2), 730);
    }

    /** Each strip's weight is rounded, their sum is not. */
    private static void weightsSumToTheCoils() {
        says("weights of strips that sum to the coil's");
        for (int kilos : KILOS) {
            for (int width = 1; width <= 6; width++) {
                SlitWidths x = BoundaryTest.with(6 * width, kilos, 0, 0, 40);
                x.want(width, 6);
                x.cut();
                DUE.is(kilos + " kilos in six strips of " + width, stripWeights(x), kilos);
                DUE.is("scrap(0)", x.scrap(0), 0);
            }
        }
    }

    private static void weightsSumWhereverItIsShifted() {
        says("weights of strips that sum to the coil's");
        for (int kilos : KILOS) {
            for (int left = 3; left <= 97 - 3 - 51; left++) {
                SlitWidths x = BoundaryTest.with(97, kilos, 3, 2, 40);
                x.want(11, 3);
                x.want(5, 2);
                x.cut();
                x.defect(0, left);
                DUE.is("shift(0)", x.shift(0), left);
                DUE.is("strips and scrap of " + kilos + " kilos at " + left,
                        stripWeights(x) + x.scrap(0), kilos);
                DUE.yes("scrap(0) is " + x.scrap(0), x.scrap(0) >= 0);
            }
        }
    }

    private static int stripWeights(SlitWidths x) {
        int sum = 0;
        for (int k = 0; x.strip(0, k, 0) >= 0; k++) {
            sum += x.strip(0, k, 3);
        }
        return sum;
    }
}
