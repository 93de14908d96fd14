/** Counts and prints the answers that are not the ones that are due. */
final class Expect {
    private final String name;
    private int wrong;
    private int seen;

    Expect(String name) {
        this.name = name;
    }

    void same(String call, long got, long due) {
        seen++;
        if (got != due) {
            wrong++;
            System.out.println(name + ": " + call + " answered " + got + ", due is " + due);
        }
    }

    void same(String call, String got, String due) {
        seen++;
        if (!got.equals(due)) {
            wrong++;
            System.out.println(name + ": " + call + " answered " + got + ", due is " + due);
        }
    }

    void none(String call, long got) {
        same(call, got, -1);
    }

    void yes(String call, boolean got) {
        same(call, got ? 1 : 0, 1);
    }

    void no(String call, boolean got) {
        same(call, got ? 1 : 0, 0);
    }

    /** The call has to throw just this class, not one below it. */
    void fails(String call, Class<? extends RuntimeException> due, Runnable body) {
        String got = "nothing";
        try {
            body.run();
        } catch (RuntimeException e) {
            got = e.getClass().getName();
        }
        same(call + " throws", got, due.getName());
    }

    int wrong() {
        return wrong;
    }

    void end() {
        System.out.println(name + ": " + seen + " answers, " + wrong + " not as due");
        if (wrong != 0) {
            System.exit(1);
        }
    }
}
