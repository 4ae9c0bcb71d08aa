/** The sentences on the sorts that name an edge; each stands above its test. */
public final class SortsEdgesTest {
    private static final Due due = new Due();
    private static final long MIN = Long.MIN_VALUE;
    private static final long MAX = Long.MAX_VALUE;
    private static final long TWO_TO_32 = 1L << 32;

    public static void main(String[] args) {
        theSumWithCWraps();
        aLetterSentComesBehindTheQueue();
        siftsByTheRest();
        siftsWithALongRest();
        limitsToBTimes();
        aLimitCountsAsItBegins();
        aLimitThatDoesNotBeginDoesNotCount();
        aLimitCountsForItselfAlone();
        aLimitCountsWhereverItIsKept();
        onceGivesTheFormerBack();
        sharesByDivision();
        pointsByAnInt();
        catchesAllButDeep();
        catchesWhatHasDonePart();
        meansAreCut();
        meansOfAWrappedSum();
        meansGoOnIfThereIsAFormer();
        theFormerIsPerhapsNone();
        theFormerStaysAsItIs();
        due.end();
    }

    private static MailRoom told(int sort, int a, int b, long c) {
        MailRoom x = new MailRoom();
        x.handle(2, 0, 2, 0, 0);
        x.handle(2, sort, a, b, c);
        return x;
    }

    /** "v + c (it wraps)" of SEND, LIKE and NOW */
    private static void theSumWithCWraps() {
        long[][] pairs = {{MAX, 1}, {MIN, -1}, {MAX, MAX}, {MIN, MIN}, {1, MAX}, {-1, MIN}, {MAX, MIN}, {0, 0}};
        for (long[] pair : pairs) {
            for (int sort = 1; sort <= 3; sort++) {
                MailRoom x = new MailRoom();
                x.handle(2, sort, 0, 0, pair[1]);
                due.is("give(2, " + pair[0] + ") of sort " + sort, x.give(2, pair[0]), 1);
                due.is("count(0)", x.count(0), sort == 1 ? 1 : 0);
                due.is("take(6)", x.take(6), sort == 1 ? 1 : 0);
                due.box(x, 0, pair[0] + pair[1], 1);
            }
        }
    }

    /** "comes behind THE QUEUE (FULL)" */
    private static void aLetterSentComesBehindTheQueue() {
        MailRoom x = new MailRoom();
        x.handle(2, 1, 9, 0, 1);
        x.handle(9, 0, 5, 0, 0);
        x.post(0, 1);
        due.is("give(2, 6)", x.give(2, 6), 1);
        x.post(0, 2);
        due.is("take(1), the one ahead of it", x.take(1), 1);
        due.box(x, 0, 1, 1);
        due.is("take(1)", x.take(1), 1);
        due.box(x, 5, 7, 1);
        due.is("take(1), the one behind it", x.take(1), 1);
        due.box(x, 0, 3, 2);
        for (int i = 0; i < 39; i++) {
            x.post(0, 0);
        }
        due.is("give(2, 6), the 40th", x.give(2, 6), 1);
        due.is("give(2, 6), the 41st", x.give(2, 6), -15);
        due.is("count(0)", x.count(0), 40);
    }

    private static void sifted(int a, long c, long v, boolean goesOn) {
        MailRoom x = told(4, a, 0, c);
        due.is("give(2, " + v + "), SIFT " + a + " by " + c, x.give(2, v), 1);
        due.is("count(4)", x.count(4), goesOn ? 2 : 1);
        due.box(x, 2, goesOn ? v : 0, goesOn ? 1 : 0);
    }

    /** "v % c (as the language does; ZERO)": the rest has the sign of v */
    private static void siftsByTheRest() {
        sifted(1, 3, 4, true);
        sifted(1, 3, -4, false);
        sifted(-1, 3, -4, true);
        sifted(1, -3, 4, true);
        sifted(-1, -3, -4, true);
        sifted(2, 3, -4, false);
        sifted(0, 3, -3, true);
        sifted(0, 1, MAX, true);
        sifted(0, -1, MIN, true);
        sifted(0, -1, MAX, true);
        sifted(3, 3, 3, false);
        for (long v : new long[] {0, 1, MIN, MAX}) {
            MailRoom x = told(4, 0, 0, 0);
            due.is("give(2, " + v + "), SIFT by 0", x.give(2, v), -12);
            due.is("count(4)", x.count(4), 1);
            due.box(x, 2, 0, 0);
        }
    }

    /** The rest is a long, and a is an int: no part of the rest is cut away. */
    private static void siftsWithALongRest() {
        sifted(5, MAX, 5, true);
        sifted(5, MAX, TWO_TO_32 + 5, false);
        sifted(Integer.MAX_VALUE, MAX, Integer.MAX_VALUE, true);
        sifted(Integer.MIN_VALUE, MAX, Integer.MIN_VALUE, true);
        sifted(Integer.MIN_VALUE, MAX, 1L << 31, false);
        sifted(-1, MIN, TWO_TO_32 - 1, false);
        sifted(5, TWO_TO_32, TWO_TO_32 + 5, true);
        sifted(0, MIN, MIN, true);
    }

    /** "THE FORMER with v, b times; from then on OVER" */
    private static void limitsToBTimes() {
        for (int b : new int[] {0, 1, 2, 99, 100}) {
            MailRoom x = told(5, 0, b, 0);
            for (int i = 0; i < b; i++) {
                due.is("give(2, 3), time " + i + " of " + b, x.give(2, 3), 1);
                due.is("count(4)", x.count(4), 2);
            }
            for (int i = 0; i < 3; i++) {
                due.is("give(2, 3), " + b + " times were", x.give(2, 3), -14);
                due.is("count(4)", x.count(4), 1);
            }
            due.box(x, 2, 3L * b, b);
        }
    }

    /** "A LIMIT counts as it begins": also a time whose former fails, and one within which it begins again */
    private static void aLimitCountsAsItBegins() {
        MailRoom x = new MailRoom();
        x.handle(2, 9, 0, 0, 0);
        x.handle(2, 5, 0, 2, 0);
        due.is("give(2, 6), its former fails", x.give(2, 6), -13);
        due.is("give(2, 0)", x.give(2, 0), 1);
        due.is("give(2, 0)", x.give(2, 0), -14);
        x.handle(3, 3, 3, 0, 0);
        x.handle(3, 5, 0, 1, 0);
        due.is("give(3, 1), within itself", x.give(3, 1), -14);
        due.is("count(4)", x.count(4), 3);
    }

    /** "A LIMIT counts as it begins": one that would be the 9th within one another, or the 17th, does not begin. */
    private static void aLimitThatDoesNotBeginDoesNotCount() {
        MailRoom x = told(5, 0, 1, 0);
        x.handle(3, 2, 2, 0, 0);
        for (int i = 0; i < 7; i++) {
            x.handle(3, 2, 3, 0, 0);
        }
        due.is("give(3, 1), the LIMIT would be the 9th", x.give(3, 1), -16);
        due.is("give(3, 1)", x.give(3, 1), -16);
        due.is("give(2, 1)", x.give(2, 1), 1);
        due.is("give(2, 1)", x.give(2, 1), -14);
        x = told(5, 0, 1, 0);
        x.handle(3, 0, 3, 0, 0);
        for (int i = 0; i < 3; i++) {
            x.handle(3, 7, 3, 0, 0);
        }
        x.handle(3, 7, 2, 0, 0);
        due.is("give(3, 1), the LIMIT is the 17th", x.give(3, 1), -16);
        due.is("give(2, 1)", x.give(2, 1), 1);
        due.is("give(2, 1)", x.give(2, 1), -14);
    }

    /** "for itself alone": two of the same numbers, beside one another and one within the other */
    private static void aLimitCountsForItselfAlone() {
        MailRoom x = new MailRoom();
        for (int k = 2; k <= 3; k++) {
            x.handle(k, 0, k, 0, 0);
            x.handle(k, 5, 0, 2, 0);
        }
        for (int i = 0; i < 3; i++) {
            due.is("give(2, 1)", x.give(2, 1), i < 2 ? 1 : -14);
        }
        for (int i = 0; i < 3; i++) {
            due.is("give(3, 1)", x.give(3, 1), i < 2 ? 1 : -14);
        }
        x = told(5, 0, 3, 0);
        x.handle(2, 5, 0, 2, 0);
        due.is("give(2, 1), both count", x.give(2, 1), 1);
        due.is("count(4)", x.count(4), 3);
        due.is("give(2, 1)", x.give(2, 1), 1);
        due.is("give(2, 1), the outer is over, the inner is not", x.give(2, 1), -14);
        due.is("count(4)", x.count(4), 1);
        x.handle(2, 5, 0, 2, 0);
        due.is("give(2, 1), a new one on the one that is over", x.give(2, 1), -14);
        due.is("count(4)", x.count(4), 2);
        MailRoom y = told(5, 0, 3, 0);
        due.is("give(2, 1), another room's", y.give(2, 1), 1);
    }

    /** "wherever it is kept": as the handler of a kind, as a former, by LIKE, by BOTH */
    private static void aLimitCountsWhereverItIsKept() {
        MailRoom x = told(5, 0, 5, 0);
        x.handle(3, 2, 2, 0, 0);
        x.handle(4, 0, 4, 0, 0);
        x.handle(4, 7, 2, 0, 0);
        x.handle(5, 3, 2, 0, 0);
        due.is("give(2, 1)", x.give(2, 1), 1);
        due.is("give(3, 1), LIKE", x.give(3, 1), 1);
        due.is("give(4, 1), BOTH", x.give(4, 1), 1);
        due.is("give(5, 1), NOW", x.give(5, 1), 1);
        x.handle(2, 10, 5, 0, 0);
        due.is("give(2, 1), a former", x.give(2, 1), 1);
        due.box(x, 5, 0, 0);
        due.is("give(2, 1), caught", x.give(2, 1), 1);
        due.box(x, 5, 4, 1);
        due.is("give(3, 1), LIKE", x.give(3, 1), -14);
        due.is("give(4, 1), BOTH", x.give(4, 1), -14);
        x.drop(2);
        due.is("give(3, 1), though its kind has none", x.give(3, 1), -14);
        due.box(x, 2, 5, 5);
    }

    /** "then k has THE FORMER again", be it none or one */
    private static void onceGivesTheFormerBack() {
        MailRoom x = new MailRoom();
        x.handle(2, 6, 4, 0, 0);
        due.is("give(2, 7)", x.give(2, 7), 1);
        due.is("has(2)", x.has(2), 0);
        due.box(x, 4, 7, 1);
        x = told(6, 4, 0, 0);
        x.handle(2, 6, 5, 0, 0);
        due.is("give(2, 7), two for once", x.give(2, 7), 1);
        due.box(x, 5, 7, 1);
        due.is("give(2, 8)", x.give(2, 8), 1);
        due.box(x, 4, 8, 1);
        due.is("give(2, 9)", x.give(2, 9), 1);
        due.is("give(2, 9)", x.give(2, 9), 1);
        due.box(x, 2, 18, 2);
        due.is("count(2)", x.count(2), 3);
        x = told(6, 4, 0, 0);
        x.handle(3, 2, 2, 0, 0);
        x.handle(2, 0, 5, 0, 0);
        due.is("give(3, 7), by another kind, told anew", x.give(3, 7), 1);
        due.is("give(2, 8), k has the former, not 3", x.give(2, 8), 1);
        due.box(x, 2, 8, 1);
        due.box(x, 5, 0, 0);
    }

    private static void shared(long c, long v) {
        MailRoom x = new MailRoom();
        x.handle(2, 8, 0, 5, c);
        due.is("give(2, " + v + "), SHARE by " + c, x.give(2, v), 1);
        due.box(x, 0, v / c, 1);
        due.box(x, 5, v % c, 1);
    }

    /** "v / c (ZERO) is KEPT in BOX a, v % c in BOX b" */
    private static void sharesByDivision() {
        shared(4, 11);
        shared(-4, 11);
        shared(4, -11);
        shared(-4, -11);
        shared(-1, MIN);
        shared(1, MIN);
        shared(MIN, MIN);
        shared(MIN, MAX);
        shared(MAX, MIN);
        shared(12, 11);
        shared(5, 0);
        for (long v : new long[] {0, 1, MIN}) {
            MailRoom x = new MailRoom();
            x.handle(2, 8, 0, 5, 0);
            due.is("give(2, " + v + "), SHARE by 0", x.give(2, v), -12);
            due.box(x, 0, 0, 0);
            due.box(x, 5, 0, 0);
        }
    }

    /** "the BOX that v names (v as an int; INDEX)" */
    private static void pointsByAnInt() {
        for (long high : new long[] {0, TWO_TO_32, -TWO_TO_32, MIN}) {
            for (int low = -1; low <= 6; low++) {
                MailRoom x = new MailRoom();
                x.handle(2, 9, 0, 0, 0);
                boolean there = low >= 0 && low <= 5;
                due.is("give(2, " + (high + low) + ")", x.give(2, high + low), there ? 1 : -13);
                for (int box = 0; box < 6; box++) {
                    due.box(x, box, box == low ? 1 : 0, box == low ? 1 : 0);
                }
            }
        }
        MailRoom x = new MailRoom();
        x.handle(2, 9, 0, 0, 0);
        for (long v : new long[] {MAX, Integer.MAX_VALUE, Integer.MIN_VALUE, 1L << 31}) {
            due.is("give(2, " + v + ")", x.give(2, v), -13);
        }
    }

    /** "if that FAILS (but by DEEP), the FAILURE's number is KEPT in BOX a in its stead" */
    private static void catchesAllButDeep() {
        for (int failure = 0; failure <= 6; failure++) {
            MailRoom x = new MailRoom();
            x.handle(2, 0, 0, 0, 0);
            x.handle(4, 4, 0, 0, 0);
            x.handle(5, 9, 0, 0, 0);
            x.handle(6, 5, 0, 0, 0);
            x.handle(7, 1, 0, 0, 0);
            x.handle(8, 3, 8, 0, 0);
            for (int i = 0; i < 40; i++) {
                x.post(0, 1);
            }
            int k = failure + 2;
            x.handle(k, 10, 5, 0, 0);
            due.is("give(" + k + ", 9), failure " + failure, x.give(k, 9), failure == 6 ? -16 : 1);
            boolean caught = failure >= 1 && failure <= 5;
            due.box(x, 5, caught ? failure : 0, caught ? 1 : 0);
            due.is("count(3)", x.count(3), 0);
        }
        MailRoom x = new MailRoom();
        x.handle(2, 10, 5, 0, 0);
        for (int i = 0; i < 7; i++) {
            x.handle(2, 2, 2, 0, 0);
        }
        due.is("give(2, 1), the CATCH is the 8th, its former would be the 9th", x.give(2, 1), -16);
        due.box(x, 5, 0, 0);
        x = new MailRoom();
        x.handle(2, 0, 2, 0, 0);
        for (int i = 0; i < 4; i++) {
            x.handle(2, 7, 2, 0, 0);
        }
        x.handle(2, 10, 5, 0, 0);
        due.is("give(2, 1), the 17th is not caught", x.give(2, 1), -16);
        due.box(x, 5, 0, 0);
    }

    /** "What a HANDLER did ahead of its FAILURE stays done", also where the failure is caught; a letter is not noted. */
    private static void catchesWhatHasDonePart() {
        MailRoom x = told(7, 9, 0, 0);
        x.handle(2, 10, 5, 0, 0);
        x.post(2, 8);
        due.is("take(1)", x.take(1), 1);
        due.box(x, 2, 8, 1);
        due.box(x, 5, 1, 1);
        due.is("count(3)", x.count(3), 0);
        due.is("failed(0, 0)", x.failed(0, 0), MailRoom.NONE);
        due.is("count(4)", x.count(4), 4);
        x.handle(2, 10, 4, 0, 0);
        due.is("give(2, 8), the inner one caught it", x.give(2, 8), 1);
        due.box(x, 4, 0, 0);
        due.box(x, 5, 2, 2);
    }

    /** "then the SUM of BOX a by its COUNT, cut" */
    private static void meansAreCut() {
        MailRoom x = told(11, 3, 0, 0);
        long[] values = {5, -12, 0, 2};
        long[] means = {5, -3, -2, -1};
        long sum = 0;
        for (int i = 0; i < values.length; i++) {
            due.is("give(2, " + values[i] + ")", x.give(2, values[i]), 1);
            sum += means[i];
            due.box(x, 2, sum, i + 1);
        }
        due.box(x, 3, -5, 4);
        x = told(11, 3, 0, 0);
        x.give(2, 1);
        due.is("give(2, -2)", x.give(2, -2), 1);
        due.box(x, 2, 1, 2);
    }

    /** A SUM wraps ahead of its mean; a box that others keep in counts too. */
    private static void meansOfAWrappedSum() {
        MailRoom x = told(11, 0, 0, 0);
        x.give(0, MAX);
        due.is("give(2, 1)", x.give(2, 1), 1);
        due.box(x, 0, MIN, 2);
        due.box(x, 2, MIN / 2, 1);
        x.give(0, 0);
        due.is("give(2, -1)", x.give(2, -1), 1);
        due.box(x, 0, MAX, 4);
        due.box(x, 2, MIN / 2 + MAX / 4, 2);
    }

    /** "with THE FORMER, if there is one": none is no failure and begins nothing, not even as a 9th or a 17th */
    private static void meansGoOnIfThereIsAFormer() {
        MailRoom x = new MailRoom();
        x.handle(2, 11, 3, 0, 0);
        due.is("give(2, 4)", x.give(2, 4), 1);
        due.is("count(4)", x.count(4), 1);
        due.box(x, 3, 4, 1);
        for (int i = 0; i < 7; i++) {
            x.handle(2, 2, 2, 0, 0);
        }
        due.is("give(2, 4), as the 8th", x.give(2, 4), 1);
        due.is("count(4)", x.count(4), 8);
        due.box(x, 3, 8, 2);
        x = told(11, 3, 0, 0);
        for (int i = 0; i < 7; i++) {
            x.handle(2, 2, 2, 0, 0);
        }
        due.is("give(2, 4), its former would be the 9th", x.give(2, 4), -16);
        due.box(x, 3, 4, 1);
        due.box(x, 2, 0, 0);
    }

    /** "THE FORMER is the one that k had ahead of that (perhaps none)": also where k was dropped */
    private static void theFormerIsPerhapsNone() {
        for (int sort : new int[] {4, 5, 7}) {
            for (boolean dropped : new boolean[] {false, true}) {
                MailRoom x = new MailRoom();
                if (dropped) {
                    x.handle(2, 0, 2, 0, 0);
                    x.drop(2);
                }
                due.is("handle(2, " + sort + ", ..)", x.handle(2, sort, 0, 3, 4), 0);
                due.is("give(2, 8) of sort " + sort, x.give(2, 8), -11);
                due.is("count(4)", x.count(4), 2);
                due.box(x, 0, 0, 0);
                due.box(x, 2, 0, 0);
            }
        }
        MailRoom x = new MailRoom();
        x.handle(2, 10, 5, 0, 0);
        due.is("give(2, 8), caught", x.give(2, 8), 1);
        due.box(x, 5, 1, 1);
    }

    /** "kept as it is, whatever is told later" */
    private static void theFormerStaysAsItIs() {
        MailRoom x = told(5, 0, 100, 0);
        x.handle(3, 2, 2, 0, 0);
        x.handle(2, 0, 5, 0, 0);
        x.handle(2, 6, 5, 0, 0);
        x.drop(2);
        due.is("give(3, 7)", x.give(3, 7), 1);
        due.box(x, 2, 7, 1);
        due.box(x, 5, 0, 0);
    }
}
