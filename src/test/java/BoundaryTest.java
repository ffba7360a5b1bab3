import java.io.IOException;
import java.util.Arrays;
import java.util.List;

/**
 * Each sentence of the document that names a boundary case: a test that names it. Words that do not
 * stand in the document, and sentences that no test names, are faults too.
 */
final class BoundaryTest {
    static final Class<IndexOutOfBoundsException> INDEX = IndexOutOfBoundsException.class;
    static final Class<IllegalStateException> TURN = IllegalStateException.class;
    static final Class<IllegalArgumentException> RANGE = IllegalArgumentException.class;
    static final Class<UnsupportedOperationException> MEANING = UnsupportedOperationException.class;
    static final int MIN = Integer.MIN_VALUE;
    static final int MAX = Integer.MAX_VALUE;

    static final Due DUE = new Due("BoundaryTest");
    private static Document document;

    public static void main(String[] args) throws IOException {
        document = new Document();
        // First, while the Java machine does not yet optimise away what a call makes and drops.
        MemoryBoundaries.all();
        OverviewBoundaries.all();
        TermsBoundaries.all();
        PlanBoundaries.all();
        PromiseBoundaries.all();
        RefusalBoundaries.all();
        DUE.under("");
        List<String> unnamed = document.unnamed();
        DUE.yes("sentences without a test: " + unnamed, unnamed.isEmpty());
        DUE.end();
    }

    /** The sentence that the checks from here on are about. */
    static void says(int section, String words) {
        DUE.under(section + " '" + words + "': ");
        DUE.yes("the document says so", document.names(section, words));
    }

    static SlitWidths with(int width, int kilos, int trim, int kerf, int knives) {
        SlitWidths x = new SlitWidths();
        x.coil(width, kilos, trim, kerf, knives);
        return x;
    }

    /** A coil of 1,000 that loses nothing, with one set-up of strips of the given widths. */
    static SlitWidths cutOf(int trim, int kerf, int... widths) {
        SlitWidths x = with(1000, 1000, trim, kerf, 40);
        for (int width : widths) {
            x.want(width, 1);
        }
        x.cut();
        return x;
    }

    static void bestIs(SlitWidths x, int... due) {
        for (int i = 0; i < due.length; i++) {
            DUE.is("best(" + i + ")", x.best(i), due[i]);
        }
    }

    static void stripIs(SlitWidths x, int setup, int k, int... due) {
        for (int what = 0; what < due.length; what++) {
            DUE.is("strip(" + setup + ", " + k + ", " + what + ")", x.strip(setup, k, what), due[what]);
        }
    }

    static void orderIs(SlitWidths x, int moves, int... numbers) {
        DUE.is("order()", x.order(), moves);
        for (int i = 0; i < numbers.length; i++) {
            DUE.is("ordered(" + i + ")", x.ordered(i), numbers[i]);
        }
        DUE.is("ordered(" + numbers.length + ")", x.ordered(numbers.length), -1);
    }

    static void takesCoil(SlitWidths x, int... c) {
        DUE.goes("coil" + Arrays.toString(c), () -> x.coil(c[0], c[1], c[2], c[3], c[4]));
    }

    static void refusesCoil(SlitWidths x, int... c) {
        DUE.refused("coil" + Arrays.toString(c), RANGE, () -> x.coil(c[0], c[1], c[2], c[3], c[4]));
    }
}
