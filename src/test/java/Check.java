/** Counts the answers that are not as due, and ends a test program by them. */
final class Check {
    interface Call {
        long answer();
    }

    interface Act {
        void run();
    }

    private final String test;
    private int made;
    private int wrong;

    Check(String test) {
        this.test = test;
    }

    void answers(String call, long due, Call made) {
        same(call, Long.toString(due), outcome(made));
    }

    /** The exception's own class counts: one below it would be another one. */
    void refuses(String call, Class<? extends RuntimeException> due, Call made) {
        same(call, due.getSimpleName(), outcome(made));
    }

    void refusesAct(String call, Class<? extends RuntimeException> due, Act made) {
        refuses(call, due, () -> {
            made.run();
            return 0;
        });
    }

    void same(String what, String due, String got) {
        made++;
        if (!due.equals(got)) {
            wrong++;
            System.out.println(test + ": " + what + " answered " + got + ", due is " + due);
        }
    }

    static String outcome(Call call) {
        try {
            return Long.toString(call.answer());
        } catch (RuntimeException e) {
            String name = e.getClass().getSimpleName();
            return thrownByMachine(e) ? "the machine's own " + name : name;
        }
    }

    /** The machine tells the index itself; the class tells a written text. */
    private static boolean thrownByMachine(RuntimeException e) {
        return e.getMessage() != null && e.getMessage().startsWith("Index ");
    }

    /** A file of so many bytes, byte i being i * 37. */
    static SignatureSpans file(int size) {
        SignatureSpans x = new SignatureSpans();
        grow(x, 0, size);
        return x;
    }

    static void grow(SignatureSpans x, int from, int to) {
        for (int i = from; i < to; i++) {
            x.add((byte) (i * 37));
        }
    }

    /** A file of 20 bytes whose signature 0 (field 0, time 50, place 4 to 6) holds. */
    static SignatureSpans signed() {
        SignatureSpans x = file(20);
        x.place(4, 6);
        x.sign(0, true, 50);
        x.chain(0, 0, 100);
        return x;
    }

    void end() {
        System.out.println(test + ": " + made + " looked at, " + wrong + " wrong");
        if (wrong != 0 || made == 0) {
            System.exit(1);
        }
    }
}
