import java.util.ArrayList;
import java.util.List;

/**
 * "Refused, and nothing changes: UNKNOWN (there is no such kind, BOX), OUTSIDE (another number is not as told),
 * FULL_UP: the first of these that fits." Each refused call is made on one of two rooms that are otherwise alike;
 * from then on both must answer alike.
 */
public final class RefusedTest {
    private static final Due due = new Due();
    private static final int MIN = Integer.MIN_VALUE;
    private static final int MAX = Integer.MAX_VALUE;
    private static final int[] NO_KINDS = {-1, 10, MIN, MAX};
    private static final int[] NO_BOXES = {-1, 6, MIN, MAX};

    private interface Call {
        long on(MailRoom x);
    }

    private interface Making {
        MailRoom room();
    }

    public static void main(String[] args) {
        refusedByHandle();
        refusedByHandleThatIsFullUp();
        handleRefusesByTheFirstThatFits();
        refusedByDropAndHas();
        refusedByPost();
        refusedByTakeAndGive();
        refusedByBoxes();
        refusedByFailedValueAndCount();
        due.end();
    }

    /** Handlers of many sorts, a LIMIT that has one time left, a ring that goes round, two failed letters. */
    private static MailRoom used() {
        MailRoom x = new MailRoom();
        x.handle(2, 5, 0, 2, 0);
        x.handle(3, 0, 3, 0, 0);
        x.handle(3, 5, 0, 2, 0);
        x.handle(4, 6, 4, 0, 0);
        x.handle(5, 1, 0, 0, 1);
        x.handle(6, 3, 3, 0, 1);
        x.handle(0, 7, 5, 0, 0);
        x.handle(7, 8, 1, 2, 3);
        for (int i = 0; i < 12; i++) {
            x.post(i % 2 == 0 ? 8 : 7, i);
        }
        x.take(4);
        for (int i = 0; i < 10; i++) {
            x.post(i, 20 + i);
        }
        x.give(3, 9);
        return x;
    }

    private static MailRoom usedWithFullQueue() {
        MailRoom x = used();
        for (int i = x.count(0); i < 40; i++) {
            x.post(i % 10, i);
        }
        return x;
    }

    private static MailRoom usedTillAllAreTold() {
        MailRoom x = used();
        for (int i = x.count(2); i < 200; i++) {
            x.handle(9, 0, i % 6, 0, 0);
        }
        return x;
    }

    private static MailRoom unused() {
        return new MailRoom();
    }

    private static void look(MailRoom x, List<Long> seen) {
        for (int box = 0; box < 6; box++) {
            seen.add(x.sum(box));
            seen.add((long) x.counted(box));
        }
        for (int k = 0; k < 10; k++) {
            seen.add((long) x.has(k));
        }
        for (int i = 0; i < 4; i++) {
            seen.add((long) x.failed(i, 0));
            seen.add((long) x.failed(i, 1));
            seen.add(x.value(i));
        }
        for (int what = 0; what < 5; what++) {
            seen.add((long) x.count(what));
        }
    }

    /** What the room answers now, and what its handlers and its queue do from now on. */
    private static List<Long> allThatIsSeen(MailRoom x) {
        List<Long> seen = new ArrayList<>();
        look(x, seen);
        for (int k = 0; k < 10; k++) {
            seen.add((long) x.give(k, 3));
            seen.add((long) x.count(4));
        }
        for (int i = 0; i < 10; i++) {
            seen.add((long) x.take(6));
            seen.add((long) x.count(4));
        }
        look(x, seen);
        for (int k = 0; k < 10; k++) {
            seen.add((long) x.handle(k, 9, 0, 0, 0));
            seen.add((long) x.drop(k));
        }
        return seen;
    }

    private static void refusedIn(Making making, String text, Call call, long want) {
        MailRoom x = making.room();
        due.is(text, call.on(x), want);
        List<Long> got = allThatIsSeen(x);
        List<Long> asDue = allThatIsSeen(making.room());
        due.is(text + ", then nothing has changed", got.equals(asDue) ? 1 : 0, 1);
    }

    private static void refused(String text, Call call, long want) {
        refusedIn(RefusedTest::unused, text + " of a new room", call, want);
        refusedIn(RefusedTest::used, text + " of a used room", call, want);
        refusedIn(RefusedTest::usedWithFullQueue, text + " with a full queue", call, want);
        refusedIn(RefusedTest::usedTillAllAreTold, text + " with all told", call, want);
    }

    private static void handleRefused(int k, int sort, int a, int b, int want) {
        refused("handle(" + k + ", " + sort + ", " + a + ", " + b + ", 1)", x -> x.handle(k, sort, a, b, 1), want);
    }

    private static void refusedByHandle() {
        for (int sort : new int[] {-1, 12, MIN, MAX}) {
            handleRefused(3, sort, 0, 0, MailRoom.OUTSIDE);
        }
        for (int k : NO_KINDS) {
            for (int sort = 0; sort < 12; sort++) {
                handleRefused(k, sort, 0, 0, MailRoom.UNKNOWN);
            }
        }
        for (int sort : new int[] {0, 6, 8, 10, 11}) {
            for (int a : NO_BOXES) {
                handleRefused(3, sort, a, 0, MailRoom.UNKNOWN);
            }
        }
        for (int b : NO_BOXES) {
            handleRefused(3, 8, 0, b, MailRoom.UNKNOWN);
        }
        for (int sort : new int[] {1, 2, 3, 7}) {
            for (int a : NO_KINDS) {
                handleRefused(3, sort, a, 0, MailRoom.UNKNOWN);
            }
        }
        for (int b : new int[] {-1, 101, MIN, MAX}) {
            handleRefused(3, 5, 0, b, MailRoom.OUTSIDE);
        }
    }

    private static void refusedByHandleThatIsFullUp() {
        for (int sort = 0; sort < 12; sort++) {
            int told = sort;
            for (int k : new int[] {0, 3, 8, 9}) {
                refusedIn(RefusedTest::usedTillAllAreTold, "handle(" + k + ", " + sort + ", 0, 0, 1), the 201st",
                    x -> x.handle(k, told, 0, 0, 1), MailRoom.FULL_UP);
            }
        }
    }

    /** The sort ahead of all, then what is UNKNOWN, then b of a LIMIT, then FULL_UP. */
    private static void handleRefusesByTheFirstThatFits() {
        handleRefused(10, 12, 6, 101, MailRoom.OUTSIDE);
        handleRefused(-1, -1, -1, -1, MailRoom.OUTSIDE);
        handleRefused(3, 12, 6, 101, MailRoom.OUTSIDE);
        handleRefused(10, 5, 0, 101, MailRoom.UNKNOWN);
        handleRefused(-1, 5, 0, -1, MailRoom.UNKNOWN);
        handleRefused(10, 8, 6, 6, MailRoom.UNKNOWN);
        handleRefused(10, 7, 10, 0, MailRoom.UNKNOWN);
    }

    private static void refusedByDropAndHas() {
        for (int k : NO_KINDS) {
            refused("drop(" + k + ")", x -> x.drop(k), MailRoom.UNKNOWN);
            refused("has(" + k + ")", x -> x.has(k), MailRoom.UNKNOWN);
        }
    }

    private static void refusedByPost() {
        for (int k : NO_KINDS) {
            refused("post(" + k + ", 5)", x -> x.post(k, 5), MailRoom.UNKNOWN);
        }
        for (int k = 0; k < 10; k++) {
            int kind = k;
            refusedIn(RefusedTest::usedWithFullQueue, "post(" + k + ", 5), the 41st",
                x -> x.post(kind, 5), MailRoom.FULL_UP);
        }
    }

    private static void refusedByTakeAndGive() {
        for (int n : new int[] {0, 7, -1, MIN, MAX}) {
            refused("take(" + n + ")", x -> x.take(n), MailRoom.OUTSIDE);
        }
        for (int k : NO_KINDS) {
            refused("give(" + k + ", 5)", x -> x.give(k, 5), MailRoom.UNKNOWN);
        }
    }

    private static void refusedByBoxes() {
        for (int box : NO_BOXES) {
            refused("sum(" + box + ")", x -> x.sum(box), 0);
            refused("counted(" + box + ")", x -> x.counted(box), MailRoom.UNKNOWN);
        }
    }

    private static void refusedByFailedValueAndCount() {
        for (int what : new int[] {-1, 2, MIN, MAX}) {
            refused("failed(0, " + what + ")", x -> x.failed(0, what), MailRoom.OUTSIDE);
            refused("failed(30, " + what + ")", x -> x.failed(30, what), MailRoom.OUTSIDE);
        }
        for (int i : new int[] {-1, 30, MIN, MAX}) {
            refused("failed(" + i + ", 0)", x -> x.failed(i, 0), MailRoom.NONE);
            refused("failed(" + i + ", 1)", x -> x.failed(i, 1), MailRoom.NONE);
            refused("value(" + i + ")", x -> x.value(i), 0);
        }
        for (int what : new int[] {-1, 5, MIN, MAX}) {
            refused("count(" + what + ")", x -> x.count(what), MailRoom.OUTSIDE);
        }
    }
}
