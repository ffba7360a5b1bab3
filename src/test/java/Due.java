/** What the tests share: answers that are due, refusals that are due, and how many were not so. */
final class Due {
    private final String test;
    private int checks = 0;
    private int wrong = 0;
    private String subject = "";

    Due(String test) {
        this.test = test;
    }

    interface Call {
        void run();
    }

    interface Question {
        int ask();
    }

    /** What the checks from here on are about: it is told with each fault. */
    void under(String subject) {
        this.subject = subject;
    }

    void is(String what, long got, long due) {
        checks++;
        if (got != due) {
            fault(what + " answered " + got + ", due is " + due);
        }
    }

    void yes(String what, boolean holds) {
        checks++;
        if (!holds) {
            fault(what);
        }
    }

    void goes(String what, Call call) {
        Class<?> thrown = thrownBy(call);
        yes(what + " threw " + thrown, thrown == null);
    }

    void refused(String what, Class<? extends RuntimeException> due, Call call) {
        Class<?> thrown = thrownBy(call);
        yes(what + " threw " + thrown + ", due is " + due, thrown == due);
    }

    /** The class itself, so that a kind of IndexOutOfBoundsException of the machine's is told apart. */
    static Class<?> thrownBy(Call call) {
        try {
            call.run();
            return null;
        } catch (RuntimeException e) {
            return e.getClass();
        }
    }

    void fault(String text) {
        wrong++;
        if (wrong <= 50) {
            System.out.println(test + ": " + subject + text);
        }
    }

    void end() {
        System.out.println(test + ": " + checks + " checks, " + wrong + " wrong");
        if (wrong != 0 || checks == 0) {
            System.exit(1);
        }
    }
}
