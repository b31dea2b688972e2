import java.util.Random;

/** Promises 1 to 17: in runs of right and wrong calls none throws, and what the document says of all states holds. */
public final class WildRunsTest {
    // The calls that look at the whole spool afterwards belong to the 512, too.
    private static final int CALLS_OF_A_RUN = 250;
    private static final int[] EDGES = {Integer.MIN_VALUE, -257, -1, 0, 1, 8, 9, 64, 255, 256, 1000, 1001, 34047,
        34048, 65536, Integer.MAX_VALUE};

    public static void main(String[] args) {
        Due due = new Due();
        runsWithinTheCalls(due);
        beyondTheLastPromisedCall(due);
        moreArePrintedThanCallsAllow(due);
        due.finish();
    }

    /** Promises 16 and 17: "Of an output", "free pages" and the like: what they tell agrees with each other. */
    private static void runsWithinTheCalls(Due due) {
        for (int seed = 0; seed < 800; seed++) {
            Random random = new Random(seed);
            int room = random.nextInt(24);
            SpoolRows x = new SpoolRows(room);
            for (int i = 0; i < CALLS_OF_A_RUN; i++) {
                call(x, random, random.nextInt(10) == 0);
            }
            checkWhole(due, "seed " + seed, x, room);
        }
    }

    /** What it is: "what later calls answer is free", but they must answer. */
    private static void beyondTheLastPromisedCall(Due due) {
        Random random = new Random(1);
        SpoolRows x = new SpoolRows(65536);
        for (int i = 0; i < 40000; i++) {
            call(x, random, random.nextInt(10) == 0);
        }
        due.holds("a spool after 40000 calls", x.count(0) >= 0 && x.count(1) <= 1000);
        SpoolRows full = new SpoolRows(65536);
        Due.open(full, 1, 9, 20000);
        due.holds("a spool after 20000 lines", full.search(65) >= 510 && full.state(1, 1) >= 510);
    }

    /** What it is: "what later calls answer is free", but they must answer, also when every output is printed. */
    private static void moreArePrintedThanCallsAllow(Due due) {
        SpoolRows x = new SpoolRows(1);
        x.writer(8);
        for (int i = 1; i <= 1001; i++) {
            x.output(1, 0, 1);
            x.line(i, 0);
            x.end(1);
            x.next(1);
            x.print(1, 1);
        }
        for (int i = 990; i <= 1010; i++) {
            due.holds("order(" + i + ")", x.order(i) >= 0 && x.order(i) <= 1000);
        }
        due.holds("a spool of printed outputs", x.search(65) >= 0 && x.count(1) >= 0 && x.output(1, 0, 1) == 0);
    }

    private static int number(Random random, boolean wild, int least, int most) {
        return wild ? EDGES[random.nextInt(EDGES.length)] : least + random.nextInt(most - least + 1);
    }

    private static void call(SpoolRows x, Random r, boolean wild) {
        int output = number(r, wild && r.nextBoolean(), 1, 40);
        int writer = number(r, wild && r.nextBoolean(), 1, 5);
        switch (r.nextInt(32)) {
            case 0: case 1: x.output(number(r, wild, 1, 6), number(r, wild, 0, 2), number(r, wild, 1, 3)); break;
            case 2: x.limit(output, number(r, wild, 0, 20), r.nextBoolean()); break;
            case 3: x.end(number(r, wild, 1, 6)); break;
            case 4: x.segment(output); break;
            case 5: x.writer(number(r, wild, 0, 136)); break;
            case 6: case 7: x.next(writer); break;
            case 8: case 9: x.print(writer, number(r, wild, 0, 6)); break;
            case 10: x.cut(writer); break;
            case 11: if (r.nextInt(4) == 0) { x.purge(output); } break;
            case 12: x.hold(output, r.nextInt(4) == 0); break;
            case 13: x.route(output, number(r, wild, 0, 63)); break;
            case 14: x.search(number(r, wild, 0, 255)); break;
            case 15: x.order(number(r, wild, 0, 20)); break;
            case 16: x.state(output, number(r, wild, 0, 5)); break;
            case 17: x.count(number(r, wild, 0, 4)); break;
            default: x.line(output, number(r, wild, 0, 34047)); break;
        }
    }

    private static void checkWhole(Due due, String run, SpoolRows x, int room) {
        int pages = 0;
        int there = 0;
        int printedPages = 0;
        int printedOutputs = 0;
        for (int output = 1; x.state(output, 0) != SpoolRows.NONE; output++) {
            int state = x.state(output, 0);
            boolean gone = state == 4 || state == 5;
            due.holds(run + ": state " + state + " of " + output, state >= 1 && state <= 5 || state == 7 || state == 8);
            due.is(run + ": pages of " + output, x.state(output, 2), (x.state(output, 1) + 7) / 8);
            there += gone ? 0 : 1;
            pages += gone ? 0 : x.state(output, 2);
            printedPages += x.state(output, 3);
            printedOutputs += state == 4 ? 1 : 0;
            if (state == 4) {
                due.is(run + ": copies left of " + output + ", printed", x.state(output, 5), 0);
            }
        }
        due.is(run + ": free pages", x.count(0), room - pages);
        due.is(run + ": outputs that are not gone", x.count(1), there);
        due.is(run + ": pages printed", x.count(3), printedPages + x.count(4));
        checkOrder(due, run, x, printedOutputs);
    }

    private static void checkOrder(Due due, String run, SpoolRows x, int printedOutputs) {
        boolean[] seen = new boolean[1001];
        for (int i = 0; i < printedOutputs; i++) {
            int output = x.order(i);
            due.is(run + ": state of order(" + i + ")", x.state(output, 0), 4);
            due.holds(run + ": order(" + i + ") is new", output > 0 && !seen[output]);
            seen[Math.max(0, output)] = true;
        }
        due.is(run + ": order(" + printedOutputs + ")", x.order(printedOutputs), 0);
    }
}
