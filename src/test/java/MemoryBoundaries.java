import java.lang.management.ManagementFactory;

/** How long an object is used, and what its calls make. */
final class MemoryBoundaries {
    private static final Due DUE = BoundaryTest.DUE;
    // So few that the Java machine does not optimise the calls before they are measured.
    private static final int OBJECTS = 20;

    private MemoryBoundaries() {
    }

    static void all() {
        rowsMadeOnce();
        lastCall();
    }

    private static void lastCall() {
        BoundaryTest.says(Document.WHAT_IT_IS,
                "An object is used for at most 512 calls after it has been made");
        SlitWidths x = BoundaryTest.with(1000, 1000, 0, 0, 2);
        x.want(100, 6);
        x.cut();
        for (int call = 4; call <= 508; call += 4) {
            x.sound();
            DUE.is("call " + (call + 1) + ", defect", x.defect(0, call), 1);
            DUE.is("call " + (call + 2) + ", shift", x.shift(0), call);
            DUE.is("call " + (call + 3) + ", strip", x.strip(0, 0, 1), call);
        }
        DUE.is("call 512, order", x.order(), 0);
        SlitWidths late = BoundaryTest.with(1000, 1000, 0, 0, 2);
        late.want(100, 6);
        for (int call = 3; call <= 503; call++) {
            late.strips(0, call % 7);
        }
        for (int i = 0; i < 9; i++) {
            DUE.is("call " + (504 + i) + ", the best pattern", late.fill(), 100);
        }
    }

    /** No call but a refused one makes an object: less than a byte a call is what measuring takes. */
    private static void rowsMadeOnce() {
        BoundaryTest.says(Document.TERMS, "All memory is rows made once.");
        if (!(ManagementFactory.getThreadMXBean() instanceof com.sun.management.ThreadMXBean bean)
                || !bean.isThreadAllocatedMemorySupported()) {
            System.out.println("this Java machine does not tell what it allocates: not measured");
            return;
        }
        SlitWidths[] warm = objects();
        SlitWidths[] measured = objects();
        long thread = Thread.currentThread().getId();
        int calls = useAll(warm);
        bean.getThreadAllocatedBytes(thread);
        long before = bean.getThreadAllocatedBytes(thread);
        useAll(measured);
        long made = bean.getThreadAllocatedBytes(thread) - before;
        DUE.yes(calls + " calls made " + made + " bytes", made < calls);
    }

    private static SlitWidths[] objects() {
        SlitWidths[] objects = new SlitWidths[OBJECTS];
        for (int i = 0; i < OBJECTS; i++) {
            objects[i] = new SlitWidths();
        }
        return objects;
    }

    private static int useAll(SlitWidths[] objects) {
        int calls = 0;
        for (SlitWidths x : objects) {
            calls += use(x);
        }
        return calls;
    }

    private static int use(SlitWidths x) {
        int calls = 0;
        x.coil(1000, 1000, 10, 2, 20);
        for (int i = 0; i < 5; i++) {
            x.want(40 + i, 6);
            calls++;
        }
        for (int i = 0; i < 9; i++) {
            x.coil(1000 + i, 1000, 10 + i, 2, 20);
            x.strips(i % 5, 6);
            x.fill();
            x.best(i % 5);
            x.cut();
            x.defect(20 * i, 20 * i + 1);
            x.order();
            x.ordered(i);
            x.strip(i, 0, 3);
            x.scrap(i);
            x.moves(i, 0);
            x.sound();
            x.shift(i);
            calls += 13;
        }
        return calls;
    }
}
