/** Compares answers with those that are due, and keeps the steps that many tests begin with. */
final class Due {
    /** A line of the sign 65 ('A') and the length 1. */
    static final int A_LINE = 256 + 65;

    private int checks;
    private int wrong;

    void is(String call, int got, int want) {
        checks++;
        if (got != want) {
            wrong++;
            System.out.println(call + " answered " + got + ", due is " + want);
        }
    }

    void holds(String what, boolean so) {
        is(what, so ? 1 : 0, 1);
    }

    void finish() {
        System.out.println((checks - wrong) + " of " + checks + " answers are as due");
        if (wrong != 0 || checks == 0) {
            System.exit(1);
        }
    }

    static void lines(SpoolRows x, int output, int howMany) {
        for (int i = 0; i < howMany; i++) {
            x.line(output, A_LINE);
        }
    }

    /** A new output of a job (class 0) with so many lines that is open: its number. */
    static int open(SpoolRows x, int job, int copies, int howManyLines) {
        int number = x.output(job, 0, copies);
        lines(x, number, howManyLines);
        return number;
    }

    /** The same, released by the end of its job. */
    static int released(SpoolRows x, int job, int copies, int howManyLines) {
        int number = open(x, job, copies, howManyLines);
        x.end(job);
        return number;
    }

    /** The same, taken by a new writer that takes any: the writer's number. */
    static int printing(SpoolRows x, int job, int copies, int howManyLines) {
        released(x, job, copies, howManyLines);
        int writer = x.writer(8);
        x.next(writer);
        return writer;
    }
}
