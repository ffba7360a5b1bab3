import java.util.Random;

/** Long mixed runs, right calls and wrong ones, against the plain model; always the same ones. */
final class ModelTest {
    private static final Due DUE = new Due("ModelTest");
    private static final int RUNS = 120;
    private static final int CALLS = 512;

    private final int run;
    private final Random random;
    private final SlitWidths real = new SlitWidths();
    private final PlainModel model = new PlainModel();
    private final int size;

    private ModelTest(int run) {
        this.run = run;
        this.random = new Random(run);
        this.size = run % 4 == 0 ? 20_000 : run % 4 == 1 ? 2_000 : run % 4 == 2 ? 200 : 40;
    }

    public static void main(String[] args) {
        for (int run = 0; run < RUNS; run++) {
            ModelTest test = new ModelTest(run);
            for (int call = 0; call < CALLS; call++) {
                test.oneCall(call);
            }
        }
        DUE.end();
    }

    private void same(int call, String name, Due.Question real, Due.Question model) {
        String due = answer(model);
        String got = answer(real);
        DUE.yes("run " + run + ", call " + call + ": " + name + " answered " + got + ", due is " + due,
                got.equals(due));
    }

    private static String answer(Due.Question question) {
        int[] answer = {0};
        Class<?> thrown = Due.thrownBy(() -> answer[0] = question.ask());
        return thrown == null ? String.valueOf(answer[0]) : thrown.getName();
    }

    private void oneCall(int call) {
        switch (random.nextInt(20)) {
            case 0 -> coil(call);
            case 1 -> want(call);
            case 2, 3, 4 -> strips(call);
            case 5 -> same(call, "fill", real::fill, model::fill);
            case 6 -> best(call);
            case 7, 8 -> same(call, "cut", real::cut, model::cut);
            case 9, 10, 11 -> strip(call);
            case 12 -> scrap(call);
            case 13 -> moves(call);
            case 14 -> orderAtTimes(call);
            case 15 -> orderedAtTimes(call);
            case 16, 17 -> defect(call);
            case 18 -> soundAtTimes(call);
            default -> shift(call);
        }
    }

    /** Mostly in range, at times just beside it, seldom far off. */
    private int number(int least, int greatest) {
        int kind = random.nextInt(40);
        if (kind == 0) {
            return least - 1;
        }
        if (kind == 1) {
            return greatest + 1;
        }
        if (kind == 2) {
            return random.nextInt();
        }
        return least + random.nextInt(greatest - least + 1);
    }

    private void coil(int call) {
        int width = random.nextInt(9) == 0 ? number(1, 20_000) : number(Math.max(1, size / 2), size);
        int kilos = number(1, random.nextBoolean() ? 50_000 : 100);
        int trim = number(0, random.nextInt(9) == 0 ? 1000 : Math.min(1000, size / 10));
        int kerf = number(0, random.nextBoolean() ? 1 : Math.min(100, size / 20));
        int knives = number(2, random.nextBoolean() ? 40 : 10);
        same(call, "coil", () -> {
            real.coil(width, kilos, trim, kerf, knives);
            return 0;
        }, () -> {
            model.coil(width, kilos, trim, kerf, knives);
            return 0;
        });
    }

    private void want(int call) {
        int width = number(1, random.nextInt(9) == 0 ? size : Math.max(1, size / 5));
        int strips = number(0, 6);
        same(call, "want", () -> real.want(width, strips), () -> model.want(width, strips));
    }

    private void strips(int call) {
        int wanted = number(0, Math.max(0, model.wantedCount() - 1));
        int strips = number(0, 6);
        same(call, "strips", () -> {
            real.strips(wanted, strips);
            return 0;
        }, () -> {
            model.strips(wanted, strips);
            return 0;
        });
    }

    private void best(int call) {
        int wanted = number(0, Math.max(0, model.wantedCount() - 1));
        same(call, "best", () -> real.best(wanted), () -> model.best(wanted));
    }

    private int setUp() {
        return number(0, Math.max(0, model.cutCount() - 1));
    }

    private void strip(int call) {
        int setup = setUp();
        int k = number(0, random.nextBoolean() ? 3 : 12);
        int what = number(0, 3);
        same(call, "strip", () -> real.strip(setup, k, what), () -> model.strip(setup, k, what));
    }

    private void scrap(int call) {
        int setup = setUp();
        same(call, "scrap", () -> real.scrap(setup), () -> model.scrap(setup));
    }

    private void moves(int call) {
        int from = setUp();
        int to = setUp();
        same(call, "moves", () -> real.moves(from, to), () -> model.moves(from, to));
    }

    /** All orders of many set-ups take the plain model long. */
    private boolean tooManyForAllOrders() {
        return model.cutCount() > 7 && random.nextInt(4) != 0;
    }

    private void orderAtTimes(int call) {
        if (!tooManyForAllOrders()) {
            same(call, "order", real::order, model::order);
        }
    }

    private void orderedAtTimes(int call) {
        int i = number(0, 9);
        if (!tooManyForAllOrders()) {
            same(call, "ordered", () -> real.ordered(i), () -> model.ordered(i));
        }
    }

    private void defect(int call) {
        int from = number(0, size);
        int to = random.nextInt(9) == 0 ? number(0, 20_000) : from + number(0, Math.max(1, size / 20));
        same(call, "defect", () -> real.defect(from, to), () -> model.defect(from, to));
    }

    private void soundAtTimes(int call) {
        if (random.nextInt(3) == 0) {
            real.sound();
            model.sound();
        }
    }

    private void shift(int call) {
        int setup = setUp();
        same(call, "shift", () -> real.shift(setup), () -> model.shift(setup));
    }
}
