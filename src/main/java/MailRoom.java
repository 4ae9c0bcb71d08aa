/** A mail room: letters of ten kinds go to handlers that are told and told anew. */
public final class MailRoom {
    public static final int NONE = -1, UNKNOWN = -2, OUTSIDE = -3, FULL_UP = -4;

    private static final int BOXES = 6;
    private static final int KINDS = 10;
    private static final int QUEUE_ROOM = 40;
    private static final int FAILED_ROOM = 30;
    private static final int MOST_TOLD = 200;
    private static final int MOST_TAKEN = 6;
    private static final int MOST_TIMES = 100;
    private static final int MOST_WITHIN = 8;
    private static final int MOST_FOR_LETTER = 16;

    private static final int DONE = 0;
    private static final int MISSING = 1;
    private static final int ZERO = 2;
    private static final int INDEX = 3;
    private static final int OVER = 4;
    private static final int FULL = 5;
    private static final int DEEP = 6;
    private static final int FAILURE_BASE = -10;

    private static final int KEEP = 0;
    private static final int SEND = 1;
    private static final int LIKE = 2;
    private static final int NOW = 3;
    private static final int SIFT = 4;
    private static final int LIMIT = 5;
    private static final int ONCE = 6;
    private static final int BOTH = 7;
    private static final int SHARE = 8;
    private static final int POINT = 9;
    private static final int CATCH = 10;
    private static final int MEAN = 11;
    /** Kind 1's handler at first; handle() refuses this number, so it is never told. */
    private static final int KEEP_AND_SEND = 12;

    /** One object for each telling: a LIMIT's count goes along to every place that keeps it. */
    private static final class Handler {
        final int kind;
        final int sort;
        final int a;
        final int b;
        final long c;
        final Handler former;
        final Handler other;
        int begun;

        Handler(int kind, int sort, int a, int b, long c, Handler former, Handler other) {
            this.kind = kind;
            this.sort = sort;
            this.a = a;
            this.b = b;
            this.c = c;
            this.former = former;
            this.other = other;
            this.begun = 0;
        }
    }

    private final long[] boxSums;
    private final int[] boxCounts;
    private final Handler[] handlers;
    private int told;

    /** The queue is a ring: its first letter stands at queueFirst. */
    private final int[] queueKinds;
    private final long[] queueValues;
    private int queueFirst;
    private int queueSize;
    private int taken;

    private final int[] failedKinds;
    private final int[] failedNumbers;
    private final long[] failedValues;
    private int failures;

    private int begunForLetter;
    private int begunInCall;

    public MailRoom() {
        boxSums = new long[BOXES];
        boxCounts = new int[BOXES];
        handlers = new Handler[KINDS];
        queueKinds = new int[QUEUE_ROOM];
        queueValues = new long[QUEUE_ROOM];
        failedKinds = new int[FAILED_ROOM];
        failedNumbers = new int[FAILED_ROOM];
        failedValues = new long[FAILED_ROOM];
        handlers[0] = new Handler(0, KEEP, 0, 0, 0L, null, null);
        handlers[1] = new Handler(1, KEEP_AND_SEND, 1, 0, -1L, null, null);
    }

    public int handle(int k, int sort, int a, int b, long c) {
        if (sort < KEEP || sort > MEAN) {
            return OUTSIDE;
        }
        if (!isKind(k) || !namesKnown(sort, a, b)) {
            return UNKNOWN;
        }
        if (sort == LIMIT && (b < 0 || b > MOST_TIMES)) {
            return OUTSIDE;
        }
        if (told >= MOST_TOLD) {
            return FULL_UP;
        }
        Handler former = handlers[k];
        Handler other = sort == LIKE || sort == BOTH ? handlerOf(a) : null;
        handlers[k] = new Handler(k, sort, a, b, c, former, other);
        told++;
        return former != null ? 1 : 0;
    }

    public int drop(int k) {
        if (!isKind(k)) {
            return UNKNOWN;
        }
        int had = handlers[k] != null ? 1 : 0;
        handlers[k] = null;
        return had;
    }

    public int has(int k) {
        if (!isKind(k)) {
            return UNKNOWN;
        }
        return handlers[k] != null ? 1 : 0;
    }

    public int post(int k, long v) {
        if (!isKind(k)) {
            return UNKNOWN;
        }
        return enqueue(k, v) == DONE ? queueSize : FULL_UP;
    }

    public int take(int n) {
        if (n < 1 || n > MOST_TAKEN) {
            return OUTSIDE;
        }
        begunInCall = 0;
        int done = 0;
        while (done < n && queueSize > 0) {
            takeFirst();
            done++;
        }
        return done;
    }

    public int give(int k, long v) {
        if (!isKind(k)) {
            return UNKNOWN;
        }
        begunInCall = 0;
        int failure = deliver(k, v);
        return failure == DONE ? 1 : FAILURE_BASE - failure;
    }

    public long sum(int box) {
        return isBox(box) ? boxSums[box] : 0L;
    }

    public int counted(int box) {
        return isBox(box) ? boxCounts[box] : UNKNOWN;
    }

    public int failed(int i, int what) {
        if (what != 0 && what != 1) {
            return OUTSIDE;
        }
        if (!isFailedKept(i)) {
            return NONE;
        }
        return what == 0 ? failedKinds[i] : failedNumbers[i];
    }

    public long value(int i) {
        return isFailedKept(i) ? failedValues[i] : 0L;
    }

    public int count(int what) {
        switch (what) {
            case 0:
                return queueSize;
            case 1:
                return taken;
            case 2:
                return told;
            case 3:
                return failures;
            case 4:
                return begunInCall;
            default:
                return OUTSIDE;
        }
    }

    private static boolean isKind(int k) {
        return k >= 0 && k < KINDS;
    }

    private static boolean isBox(int box) {
        return box >= 0 && box < BOXES;
    }

    private boolean isFailedKept(int i) {
        return i >= 0 && i < FAILED_ROOM && i < failures;
    }

    /** Whether the boxes and kinds that a sort names are there; what it does not have is not looked at. */
    private static boolean namesKnown(int sort, int a, int b) {
        switch (sort) {
            case KEEP:
            case ONCE:
            case CATCH:
            case MEAN:
                return isBox(a);
            case SHARE:
                return isBox(a) && isBox(b);
            case SEND:
            case LIKE:
            case NOW:
            case BOTH:
                return isKind(a);
            default:
                return true;
        }
    }

    private Handler handlerOf(int k) {
        return isKind(k) ? handlers[k] : null;
    }

    private int enqueue(int k, long v) {
        if (queueSize >= QUEUE_ROOM) {
            return FULL;
        }
        int at = (queueFirst + queueSize) % QUEUE_ROOM;
        if (at < 0) {
            return FULL;
        }
        queueKinds[at] = k;
        queueValues[at] = v;
        queueSize++;
        return DONE;
    }

    /** The letter leaves the queue ahead of its handler, which may send another into its room. */
    private void takeFirst() {
        int at = queueFirst;
        if (at < 0 || at >= QUEUE_ROOM) {
            return;
        }
        int k = queueKinds[at];
        long v = queueValues[at];
        queueFirst = (at + 1) % QUEUE_ROOM;
        queueSize--;
        taken++;
        int failure = deliver(k, v);
        if (failure != DONE) {
            noteFailed(k, v, failure);
        }
    }

    private void noteFailed(int k, long v, int failure) {
        int at = failures;
        failures++;
        if (at >= 0 && at < FAILED_ROOM) {
            failedKinds[at] = k;
            failedNumbers[at] = failure;
            failedValues[at] = v;
        }
    }

    private int deliver(int k, long v) {
        begunForLetter = 0;
        int failure = begin(handlerOf(k), v, 1);
        begunInCall += begunForLetter;
        return failure;
    }

    /** The depth is this handler's own: 1 for the one that the letter is given to. */
    private int begin(Handler h, long v, int depth) {
        if (depth > MOST_WITHIN || begunForLetter >= MOST_FOR_LETTER) {
            return DEEP;
        }
        begunForLetter++;
        return h == null ? MISSING : act(h, v, depth);
    }

    private int act(Handler h, long v, int depth) {
        switch (h.sort) {
            case KEEP:
                return keep(h.a, v);
            case SEND:
                return enqueue(h.a, v + h.c);
            case LIKE:
                return begin(h.other, v + h.c, depth + 1);
            case NOW:
                return begin(handlerOf(h.a), v + h.c, depth + 1);
            case SIFT:
                return sift(h, v, depth);
            case LIMIT:
                return limit(h, v, depth);
            case ONCE:
                return once(h, v);
            case BOTH:
                return both(h, v, depth);
            case SHARE:
                return share(h, v);
            case POINT:
                return keep((int) v, 1L);
            case CATCH:
                return keepFailure(h, v, depth);
            case MEAN:
                return mean(h, v, depth);
            default:
                return keepAndSend(h, v);
        }
    }

    private int keep(int box, long v) {
        if (!isBox(box)) {
            return INDEX;
        }
        boxSums[box] += v;
        boxCounts[box]++;
        return DONE;
    }

    private int sift(Handler h, long v, int depth) {
        if (h.c == 0L) {
            return ZERO;
        }
        return v % h.c == h.a ? begin(h.former, v, depth + 1) : DONE;
    }

    /** Counted ahead of the former, so that a LIMIT that comes to itself again has this time behind it. */
    private int limit(Handler h, long v, int depth) {
        if (h.begun >= h.b) {
            return OVER;
        }
        h.begun++;
        return begin(h.former, v, depth + 1);
    }

    private int once(Handler h, long v) {
        int failure = keep(h.a, v);
        if (failure == DONE && isKind(h.kind)) {
            handlers[h.kind] = h.former;
        }
        return failure;
    }

    private int both(Handler h, long v, int depth) {
        int failure = begin(h.former, v, depth + 1);
        return failure == DONE ? begin(h.other, v, depth + 1) : failure;
    }

    private int share(Handler h, long v) {
        if (h.c == 0L) {
            return ZERO;
        }
        int failure = keep(h.a, v / h.c);
        return failure == DONE ? keep(h.b, v % h.c) : failure;
    }

    private int keepFailure(Handler h, long v, int depth) {
        int failure = begin(h.former, v, depth + 1);
        return failure == DONE || failure == DEEP ? failure : keep(h.a, failure);
    }

    private int mean(Handler h, long v, int depth) {
        int box = h.a;
        int failure = keep(box, v);
        if (failure != DONE || h.former == null) {
            return failure;
        }
        if (!isBox(box) || boxCounts[box] == 0) {
            return ZERO;
        }
        return begin(h.former, boxSums[box] / boxCounts[box], depth + 1);
    }

    private int keepAndSend(Handler h, long v) {
        int failure = keep(h.a, v);
        return failure == DONE && v > 1L ? enqueue(h.b, v + h.c) : failure;
    }
}
