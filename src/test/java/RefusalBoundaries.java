import java.util.ArrayList;
import java.util.List;

/**
 * 'What is refused changes nothing': two objects with the same calls behind them, one of them with a
 * refused call more, answer alike from then on.
 */
final class RefusalBoundaries {
    private static final Due DUE = BoundaryTest.DUE;
    private static final int MIN = BoundaryTest.MIN;
    private static final int MAX = BoundaryTest.MAX;

    private RefusalBoundaries() {
    }

    private interface State {
        SlitWidths make();
    }

    private interface OneCall {
        int on(SlitWidths x);
    }

    static void all() {
        BoundaryTest.says(Document.TERMS, "What is refused changes nothing.");
        State[] states = {SlitWidths::new, RefusalBoundaries::some, RefusalBoundaries::full};
        for (State state : states) {
            refusedCoils(state);
            refusedWishes(state);
            refusedQuestions(state);
            refusedDefects(state);
        }
        refusedAfterQuestions();
        refusedMeanings();
        refusedTurns();
    }

    /** Two wanted widths, two set-ups, two defects. */
    static SlitWidths some() {
        SlitWidths x = BoundaryTest.with(400, 777, 15, 5, 5);
        x.want(50, 5);
        x.want(40, 4);
        x.cut();
        x.cut();
        x.defect(0, 17);
        x.defect(310, 312);
        x.shift(0);
        return x;
    }

    /** Five wanted widths, nine set-ups, ten defects. */
    static SlitWidths full() {
        SlitWidths x = BoundaryTest.with(300, 555, 10, 3, 5);
        for (int i = 0; i < 5; i++) {
            x.want(20 + 7 * i, 6);
        }
        for (int i = 0; i < 9; i++) {
            x.strips(i % 5, 4);
            x.coil(280 + 5 * i, 555 + i, 10, 3, 4 + i % 3);
            x.cut();
        }
        for (int i = 0; i < 10; i++) {
            x.defect(12 + 2 * i, 13 + 2 * i);
        }
        return x;
    }

    private static void unchanged(String what, State state, Class<? extends RuntimeException> due,
            OneCall call) {
        SlitWidths twin = state.make();
        SlitWidths x = state.make();
        DUE.refused(what, due, () -> call.on(x));
        String told = later(x);
        DUE.yes(what + " changed what is answered later: " + told, told.equals(later(twin)));
    }

    private static void coilRefused(State state, int width, int kilos, int trim, int kerf, int knives) {
        unchanged("coil(" + width + ", " + kilos + ", " + trim + ", " + kerf + ", " + knives + ")", state,
                BoundaryTest.RANGE, x -> {
                    x.coil(width, kilos, trim, kerf, knives);
                    return 0;
                });
    }

    private static void refusedCoils(State state) {
        coilRefused(state, 0, 1, 0, 0, 2);
        coilRefused(state, 20001, 1, 0, 0, 2);
        coilRefused(state, 123, 0, 0, 0, 2);
        coilRefused(state, 123, 50001, 0, 0, 2);
        coilRefused(state, 123, 45, -1, 0, 2);
        coilRefused(state, 123, 45, 1001, 0, 2);
        coilRefused(state, 123, 45, 6, -1, 2);
        coilRefused(state, 123, 45, 6, 101, 2);
        coilRefused(state, 123, 45, 6, 7, 1);
        coilRefused(state, 123, 45, 6, 7, 41);
    }

    private static void refusedWishes(State state) {
        int wanted = wantedOf(state);
        int[] noSuch = {-1, wanted, MIN, MAX};
        for (int w : noSuch) {
            unchanged("strips(" + w + ", 1)", state, BoundaryTest.INDEX, x -> {
                x.strips(w, 1);
                return 0;
            });
            unchanged("best(" + w + ")", state, BoundaryTest.INDEX, x -> x.best(w));
        }
        int[] wrong = {-1, 7, MIN, MAX};
        for (int strips : wrong) {
            if (wanted > 0) {
                unchanged("strips(0, " + strips + ")", state, BoundaryTest.RANGE, x -> {
                    x.strips(0, strips);
                    return 0;
                });
            }
            if (wanted < 5) {
                unchanged("want(1, " + strips + ")", state, BoundaryTest.RANGE, x -> x.want(1, strips));
            }
        }
        int[] widths = {0, 20001, MIN, MAX};
        for (int width : widths) {
            Class<? extends RuntimeException> due = wanted < 5 ? BoundaryTest.RANGE : BoundaryTest.TURN;
            unchanged("want(" + width + ", 1)", state, due, x -> x.want(width, 1));
        }
    }

    private static int wantedOf(State state) {
        SlitWidths x = state.make();
        int count = 0;
        while (count < 5 && Due.thrownBy(bestCall(x, count)) == null) {
            count++;
        }
        return count;
    }

    private static Due.Call bestCall(SlitWidths x, int wanted) {
        return () -> x.best(wanted);
    }

    private static int setUpsOf(SlitWidths x) {
        int count = 0;
        while (count < 9 && x.ordered(count) >= 0) {
            count++;
        }
        return count;
    }

    private static void refusedQuestions(State state) {
        int setUps = setUpsOf(state.make());
        int[] noSuch = {-1, setUps, MIN, MAX};
        for (int s : noSuch) {
            unchanged("strip(" + s + ", 0, 0)", state, BoundaryTest.INDEX, x -> x.strip(s, 0, 0));
            unchanged("scrap(" + s + ")", state, BoundaryTest.INDEX, x -> x.scrap(s));
            unchanged("moves(" + s + ", 0)", state, BoundaryTest.INDEX, x -> x.moves(s, 0));
            unchanged("moves(0, " + s + ")", state, BoundaryTest.INDEX, x -> x.moves(0, s));
            unchanged("shift(" + s + ")", state, BoundaryTest.INDEX, x -> x.shift(s));
        }
        unchanged("strip(0, -1, 0)", state, BoundaryTest.INDEX, x -> x.strip(0, -1, 0));
        unchanged("strip(0, 0, -1)", state, BoundaryTest.INDEX, x -> x.strip(0, 0, -1));
        unchanged("strip(0, 0, 4)", state, BoundaryTest.INDEX, x -> x.strip(0, 0, 4));
        unchanged("ordered(-1)", state, BoundaryTest.INDEX, x -> x.ordered(-1));
        unchanged("ordered(min)", state, BoundaryTest.INDEX, x -> x.ordered(MIN));
    }

    private static void refusedDefects(State state) {
        boolean room = Due.thrownBy(defectCall(state.make())) == null;
        Class<? extends RuntimeException> due = room ? BoundaryTest.RANGE : BoundaryTest.TURN;
        int[][] wrong = {{-1, 5}, {0, 20001}, {5, 5}, {6, 5}, {MIN, MAX}};
        for (int[] w : wrong) {
            unchanged("defect(" + w[0] + ", " + w[1] + ")", state, due, x -> x.defect(w[0], w[1]));
        }
    }

    private static Due.Call defectCall(SlitWidths x) {
        return () -> x.defect(0, 1);
    }

    /** What was asked before a refused call is answered alike behind it. */
    private static void refusedAfterQuestions() {
        State asked = () -> {
            SlitWidths x = some();
            x.fill();
            x.order();
            return x;
        };
        refusedCoils(asked);
        refusedWishes(asked);
        refusedQuestions(asked);
    }

    private static void refusedMeanings() {
        State tooNarrow = () -> {
            SlitWidths x = some();
            x.coil(69, 9, 15, 0, 40);
            return x;
        };
        unchanged("cut() without a pattern", tooNarrow, BoundaryTest.MEANING, SlitWidths::cut);
        State nothingWanted = () -> {
            SlitWidths x = some();
            x.strips(0, 0);
            x.strips(1, 0);
            return x;
        };
        unchanged("cut() with nothing wanted", nothingWanted, BoundaryTest.MEANING, SlitWidths::cut);
        unchanged("cut() of a new object", SlitWidths::new, BoundaryTest.MEANING, SlitWidths::cut);
        State stuck = () -> {
            SlitWidths x = some();
            x.defect(20, 390);
            return x;
        };
        unchanged("shift(0) without room", stuck, BoundaryTest.MEANING, x -> x.shift(0));
        unchanged("shift(1) without room", stuck, BoundaryTest.MEANING, x -> x.shift(1));
    }

    private static void refusedTurns() {
        unchanged("a sixth wanted width", RefusalBoundaries::full, BoundaryTest.TURN, x -> x.want(9, 6));
        unchanged("a tenth set-up", RefusalBoundaries::full, BoundaryTest.TURN, SlitWidths::cut);
        unchanged("an eleventh defect", RefusalBoundaries::full, BoundaryTest.TURN,
                x -> x.defect(0, 20000));
        State noneWanted = () -> {
            SlitWidths x = full();
            for (int i = 0; i < 5; i++) {
                x.strips(i, 0);
            }
            return x;
        };
        unchanged("a tenth set-up without a pattern", noneWanted, BoundaryTest.TURN, SlitWidths::cut);
    }

    /** All that can be asked, and then what calls that change something answer, one after another. */
    private static String later(SlitWidths x) {
        List<String> told = new ArrayList<>();
        look(x, told);
        tell(told, "cut", x::cut);
        int setUps = setUpsOf(x);
        for (int i = 0; i < setUps; i++) {
            int setup = i;
            tell(told, "shift", () -> x.shift(setup));
        }
        tell(told, "order", x::order);
        tell(told, "defect", () -> x.defect(30, 31));
        tell(told, "shift", () -> x.shift(0));
        tell(told, "want", () -> x.want(33, 2));
        x.coil(20000, 1, 0, 0, 40);
        for (int i = 0; i < 6; i++) {
            int wanted = i;
            tell(told, "best", () -> x.best(wanted));
        }
        tell(told, "cut", x::cut);
        x.sound();
        tell(told, "shift", () -> x.shift(0));
        tell(told, "defect", () -> x.defect(0, 1));
        return told.toString();
    }

    private static void look(SlitWidths x, List<String> told) {
        tell(told, "fill", x::fill);
        for (int i = 0; i < 6; i++) {
            int wanted = i;
            tell(told, "best", () -> x.best(wanted));
        }
        int setUps = setUpsOf(x);
        for (int s = 0; s < setUps; s++) {
            int setup = s;
            for (int what = 0; what < 4; what++) {
                int asked = what;
                tell(told, "strip", () -> x.strip(setup, setup % 4, asked));
            }
            tell(told, "scrap", () -> x.scrap(setup));
            tell(told, "moves", () -> x.moves(setup, 0));
            tell(told, "ordered", () -> x.ordered(setup));
        }
        tell(told, "order", x::order);
    }

    private static void tell(List<String> told, String name, Due.Question question) {
        int[] answer = {0};
        Class<?> thrown = Due.thrownBy(() -> answer[0] = question.ask());
        told.add(name + " " + (thrown == null ? String.valueOf(answer[0]) : thrown.getSimpleName()));
    }
}
