public final class SpoolRows {
    public static final int NONE = -1;

    private static final int WRONG_STATE = -2;
    private static final int NO_PAGE_FREE = -3;

    private static final int MOST_PAGES = 65536;
    private static final int RESERVED_PART = 8;
    private static final int MOST_OUTPUTS = 1000;
    private static final int MOST_WRITERS = 9;
    // An object is used for at most 512 calls, and each call brings at most one line.
    private static final int MOST_KEPT_LINES = 512;

    private static final int MOST_JOB = 9999;
    private static final int CLASSES = 8;
    private static final int DESTINATIONS = 8;
    private static final int PRIORITIES = 8;
    private static final int MOST_COPIES = 9;
    private static final int SIGNS = 256;
    private static final int MOST_LENGTH = 132;
    private static final int LINES_ON_PAGE = 8;
    private static final int PAGES_TO_CHECKPOINT = 4;
    private static final int CRITERIA_STEP = 16;
    private static final int ANY_CLASS = 8;
    private static final int ANY_DESTINATION = -1;

    private static final int OPEN = 1;
    private static final int RELEASED = 2;
    private static final int PRINTING = 3;
    private static final int PRINTED = 4;
    private static final int PURGED = 5;
    private static final int HELD_MORE = 6;

    private final int reserved;
    private int freePages;
    private final Output[] outputs = new Output[MOST_OUTPUTS];
    private int outputCount;
    private final Writer[] writers = new Writer[MOST_WRITERS];
    private int writerCount;
    private final int[] printedOrder = new int[MOST_OUTPUTS];
    private int printedCount;
    // One pair of rows for the lines of all outputs: a row for each output would cost far more room.
    private final int[] lineSigns = new int[MOST_KEPT_LINES];
    private final int[] lineOutputs = new int[MOST_KEPT_LINES];
    private int keptLines;
    private int pagesPrinted;
    private int pagesAgain;

    public SpoolRows(int pages) {
        int room = Math.max(0, Math.min(pages, MOST_PAGES));
        freePages = room;
        reserved = room / RESERVED_PART;
    }

    public int output(int job, int c, int copies) {
        if (!isWithin(job, 1, MOST_JOB) || !isWithin(c, 0, CLASSES - 1) || !isWithin(copies, 1, MOST_COPIES)) {
            return NONE;
        }
        if (freePages <= reserved && !hasOutputThere(job)) {
            return 0;
        }
        Output o = addOutput(job, c, copies);
        return o == null ? 0 : o.number;
    }

    public int line(int output, int n) {
        Output o = outputOf(output);
        if (o == null || !isWithin(n, 0, MOST_LENGTH * SIGNS + SIGNS - 1)) {
            return NONE;
        }
        if (o.state != OPEN) {
            return WRONG_STATE;
        }
        boolean beyond = o.isAtLimit();
        // The limit is asked before the page: a line that is not taken needs none.
        if (beyond && o.limitEnds) {
            return 0;
        }
        if (!hasRoomForLine(o)) {
            return NO_PAGE_FREE;
        }
        takeLine(o, n);
        return beyond ? 2 : 1;
    }

    public int limit(int output, int lines, boolean ends) {
        Output o = outputOf(output);
        if (o == null || lines < 0) {
            return NONE;
        }
        if (o.isGone()) {
            return WRONG_STATE;
        }
        o.limit = lines;
        o.limitEnds = ends;
        return 1;
    }

    public int end(int job) {
        int open = 0;
        for (int number = 1; number <= outputCount; number++) {
            Output o = outputOf(number);
            if (o != null && o.job == job && o.state == OPEN) {
                open++;
                releaseOrPurge(o);
            }
        }
        return open;
    }

    public int segment(int output) {
        Output o = outputOf(output);
        if (o == null) {
            return NONE;
        }
        if (o.state != OPEN || o.lines == 0) {
            return WRONG_STATE;
        }
        Output further = addOutput(o.job, o.kind, o.copies);
        if (further == null) {
            return 0;
        }
        further.takeSettingsOf(o);
        o.state = RELEASED;
        return further.number;
    }

    public int writer(int criteria) {
        if (criteria < 0) {
            return NONE;
        }
        int kind = criteria % CRITERIA_STEP;
        int destination = criteria / CRITERIA_STEP - 1;
        if (kind > ANY_CLASS || destination >= DESTINATIONS) {
            return NONE;
        }
        if (writerCount >= MOST_WRITERS) {
            return 0;
        }
        writers[writerCount] = new Writer(kind, destination);
        writerCount++;
        return writerCount;
    }

    public int next(int writer) {
        Writer w = writerOf(writer);
        if (w == null) {
            return NONE;
        }
        if (w.taken != null) {
            return WRONG_STATE;
        }
        Output first = firstFor(w);
        if (first == null) {
            return 0;
        }
        first.state = PRINTING;
        w.taken = first;
        return first.number;
    }

    public int print(int writer, int pages) {
        Writer w = writerOf(writer);
        if (w == null || pages < 0) {
            return NONE;
        }
        Output o = w.taken;
        if (o == null) {
            return WRONG_STATE;
        }
        int now = Math.min(pages, o.pagesToPrint());
        o.printed += now;
        pagesPrinted += now;
        if (o.pagesToPrint() == 0) {
            w.taken = null;
            noteInOrder(o);
            letGo(o, PRINTED);
        }
        return now;
    }

    public int cut(int writer) {
        Writer w = writerOf(writer);
        if (w == null) {
            return NONE;
        }
        Output o = w.taken;
        if (o == null) {
            return WRONG_STATE;
        }
        int checkpoint = o.lastCheckpoint();
        // Nothing of a purged output is printed again, so what was printed of it stays so.
        if (o.purgeWaits) {
            w.taken = null;
            letGo(o, PURGED);
        } else {
            pagesAgain += o.printed - checkpoint;
            o.printed = checkpoint;
        }
        return checkpoint;
    }

    public int purge(int output) {
        Output o = outputOf(output);
        if (o == null) {
            return NONE;
        }
        if (o.isGone()) {
            return WRONG_STATE;
        }
        if (o.state == PRINTING) {
            o.purgeWaits = true;
            return 0;
        }
        letGo(o, PURGED);
        return 1;
    }

    public int hold(int output, boolean on) {
        Output o = outputOf(output);
        if (o == null) {
            return NONE;
        }
        if (!o.isOpenOrReleased()) {
            return WRONG_STATE;
        }
        int before = o.held ? 1 : 0;
        o.held = on;
        return before;
    }

    public int route(int output, int to) {
        Output o = outputOf(output);
        if (o == null || !isWithin(to, 0, PRIORITIES * DESTINATIONS - 1)) {
            return NONE;
        }
        if (!o.isOpenOrReleased()) {
            return WRONG_STATE;
        }
        int before = o.priority * DESTINATIONS + o.destination;
        o.priority = to / DESTINATIONS;
        o.destination = to % DESTINATIONS;
        return before;
    }

    public int search(int c) {
        if (!isWithin(c, 0, SIGNS - 1)) {
            return NONE;
        }
        int found = 0;
        for (int i = 0; i < keptLines; i++) {
            if (lineSigns[i] == c && isThere(lineOutputs[i])) {
                found++;
            }
        }
        return found;
    }

    public int order(int i) {
        return isWithin(i, 0, printedCount - 1) ? printedOrder[i] : 0;
    }

    public int state(int output, int what) {
        Output o = outputOf(output);
        if (o == null) {
            return NONE;
        }
        switch (what) {
            case 0:
                return o.held ? o.state + HELD_MORE : o.state;
            case 1:
                return o.lines;
            case 2:
                return o.pageCount();
            case 3:
                return o.printed;
            case 4:
                return o.job;
            case 5:
                return o.copiesLeft();
            default:
                return NONE;
        }
    }

    public int count(int what) {
        switch (what) {
            case 0:
                return freePages;
            case 1:
                return outputsThere();
            case 2:
                return writerCount;
            case 3:
                return pagesPrinted;
            case 4:
                return pagesAgain;
            default:
                return NONE;
        }
    }

    private static boolean isWithin(int value, int least, int most) {
        return value >= least && value <= most;
    }

    private Output outputOf(int number) {
        return isWithin(number, 1, outputCount) ? outputs[number - 1] : null;
    }

    private Writer writerOf(int number) {
        return isWithin(number, 1, writerCount) ? writers[number - 1] : null;
    }

    private boolean isThere(int number) {
        Output o = outputOf(number);
        return o != null && !o.isGone();
    }

    private boolean hasOutputThere(int job) {
        for (int number = 1; number <= outputCount; number++) {
            Output o = outputOf(number);
            if (o != null && o.job == job && !o.isGone()) {
                return true;
            }
        }
        return false;
    }

    private int outputsThere() {
        int there = 0;
        for (int number = 1; number <= outputCount; number++) {
            if (isThere(number)) {
                there++;
            }
        }
        return there;
    }

    // Answers null when there are as many as there may be.
    private Output addOutput(int job, int kind, int copies) {
        if (outputCount >= MOST_OUTPUTS) {
            return null;
        }
        Output o = new Output(outputCount + 1, job, kind, copies);
        outputs[outputCount] = o;
        outputCount++;
        return o;
    }

    private boolean hasRoomForLine(Output o) {
        return freePages > 0 || !o.needsPage();
    }

    private void takeLine(Output o, int n) {
        if (o.needsPage()) {
            freePages--;
        }
        o.lines++;
        // A line of length 0 is never found, so its sign need not be kept.
        if (n / SIGNS > 0) {
            keepSign(n % SIGNS, o.number);
        }
    }

    // The rows can be full only after the last call that the document promises.
    private void keepSign(int sign, int output) {
        if (keptLines < MOST_KEPT_LINES) {
            lineSigns[keptLines] = sign;
            lineOutputs[keptLines] = output;
            keptLines++;
        }
    }

    private void releaseOrPurge(Output o) {
        if (o.lines == 0) {
            letGo(o, PURGED);
        } else {
            o.state = RELEASED;
        }
    }

    private void letGo(Output o, int state) {
        o.state = state;
        o.held = false;
        freePages += o.pageCount();
    }

    private void noteInOrder(Output o) {
        if (printedCount < MOST_OUTPUTS) {
            printedOrder[printedCount] = o.number;
            printedCount++;
        }
    }

    private Output firstFor(Writer w) {
        Output first = null;
        for (int number = 1; number <= outputCount; number++) {
            Output o = outputOf(number);
            if (o != null && o.mayBePrinted() && w.suits(o) && (first == null || o.comesBefore(first))) {
                first = o;
            }
        }
        return first;
    }

    private static final class Output {
        final int number;
        final int job;
        final int kind;
        final int copies;
        int destination;
        int priority;
        int state = OPEN;
        boolean held;
        int lines;
        int limit;
        boolean limitEnds;
        int printed;
        boolean purgeWaits;

        Output(int number, int job, int kind, int copies) {
            this.number = number;
            this.job = job;
            this.kind = kind;
            this.copies = copies;
        }

        void takeSettingsOf(Output other) {
            destination = other.destination;
            priority = other.priority;
            limit = other.limit;
            limitEnds = other.limitEnds;
            held = other.held;
        }

        boolean isGone() {
            return state == PRINTED || state == PURGED;
        }

        boolean isOpenOrReleased() {
            return state == OPEN || state == RELEASED;
        }

        boolean mayBePrinted() {
            return state == RELEASED && !held && lines > 0;
        }

        boolean isAtLimit() {
            return limit > 0 && lines >= limit;
        }

        boolean needsPage() {
            return lines % LINES_ON_PAGE == 0;
        }

        int pageCount() {
            return (lines + LINES_ON_PAGE - 1) / LINES_ON_PAGE;
        }

        int pagesToPrint() {
            return pageCount() * copies - printed;
        }

        int lastCheckpoint() {
            return printed - printed % PAGES_TO_CHECKPOINT;
        }

        int copiesLeft() {
            int pages = pageCount();
            return pages == 0 ? copies : copies - printed / pages;
        }

        boolean comesBefore(Output other) {
            if (priority != other.priority) {
                return priority > other.priority;
            }
            if (job != other.job) {
                return job < other.job;
            }
            return number < other.number;
        }
    }

    private static final class Writer {
        final int kind;
        final int destination;
        // The output that it prints; null while it is idle.
        Output taken;

        Writer(int kind, int destination) {
            this.kind = kind;
            this.destination = destination;
        }

        boolean suits(Output o) {
            return (kind == ANY_CLASS || kind == o.kind)
                    && (destination == ANY_DESTINATION || destination == o.destination);
        }
    }
}
