/** Compares answers with those that are due, and keeps the steps that many tests begin with. */
final class Due {
    /** A line of the sign 65 ('A') and the length 1. */
    static final int A_LINE = 256 + 65;

    private int checks;
    private int wrong;

    void is(String call, int got, int want) {
        checks++;
        if (got != want) {
            wrong++;
            System.out.println(call + " answered " + got + ", due is " + want);
        }
    }

    void holds(String what, boolean so) {
        is(what, so ? 1 : 0, 1);
    }

    /** That a spool shows the same as when the picture was taken. */
    void isStill(String when, SpoolRows x, String picture) {
        String now = picture(x);
        checks++;
        if (!now.equals(picture)) {
            wrong++;
            System.out.println("the spool " + when + " shows " + now + ", due is " + picture);
        }
    }

    void finish() {
        System.out.println((checks - wrong) + " of " + checks + " answers are as due");
        if (wrong != 0 || checks == 0) {
            System.exit(1);
        }
    }

    /** All that a spool tells by calls that change nothing, in some 8 calls and 6 for each output. */
    static String picture(SpoolRows x) {
        StringBuilder text = new StringBuilder("counts");
        for (int what = 0; what <= 4; what++) {
            text.append(' ').append(x.count(what));
        }
        text.append(", found ").append(x.search(65));
        for (int output = 1; x.state(output, 0) != SpoolRows.NONE; output++) {
            text.append(", output ").append(output);
            for (int what = 0; what <= 5; what++) {
                text.append(' ').append(x.state(output, what));
            }
        }
        text.append(", order");
        for (int i = 0; x.order(i) != 0; i++) {
            text.append(' ').append(x.order(i));
        }
        return text.toString();
    }

    /** Numbers that none bears when there are so many: too small, too large, and those that would wrap round to 1. */
    static int[] numbersOfNone(int howMany) {
        return new int[] {0, -1, howMany + 1, 257, 1000, 1001, 65537, Integer.MIN_VALUE, Integer.MIN_VALUE + 1,
            Integer.MAX_VALUE};
    }

    static void lines(SpoolRows x, int output, int howMany) {
        for (int i = 0; i < howMany; i++) {
            x.line(output, A_LINE);
        }
    }

    /** A new output of a job (class 0) with so many lines that is open: its number. */
    static int open(SpoolRows x, int job, int copies, int howManyLines) {
        int number = x.output(job, 0, copies);
        lines(x, number, howManyLines);
        return number;
    }

    /** The same, released by the end of its job. */
    static int released(SpoolRows x, int job, int copies, int howManyLines) {
        int number = open(x, job, copies, howManyLines);
        x.end(job);
        return number;
    }

    /** The same, taken by a new writer that takes any: the writer's number. */
    static int printing(SpoolRows x, int job, int copies, int howManyLines) {
        released(x, job, copies, howManyLines);
        int writer = x.writer(8);
        x.next(writer);
        return writer;
    }

    /** A spool of 16 pages with an output of each state, 1 open, 2 released, 3 printing, 4 printed and 5 purged. */
    static SpoolRows oneOfEachState() {
        SpoolRows x = new SpoolRows(16);
        for (int job = 1; job <= 5; job++) {
            open(x, job, 1, 9);
        }
        x.writer(8);
        x.end(4);
        x.next(1);
        x.print(1, 2);
        x.end(3);
        x.next(1);
        x.end(2);
        x.purge(5);
        return x;
    }
}
