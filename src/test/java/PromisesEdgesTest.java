/** The sentences of the promises 1 to 12 that name an edge; each stands above its test. */
public final class PromisesEdgesTest {
    private static final Due due = new Due();
    private static final int MIN = Integer.MIN_VALUE;
    private static final int MAX = Integer.MAX_VALUE;

    public static void main(String[] args) {
        theQueueIsEmptyAtFirst();
        sortsAreZeroToEleven();
        limitsAreZeroToAHundred();
        namesAreLookedAtAheadOfB();
        boxesAndKindsOfEachSort();
        whatASortHasNotIsNotLookedAt();
        twoHundredAreTold();
        refusedTellingsAreNotTold();
        dropAndHas();
        postTellsHowMany();
        takesOneToSix();
        takesTillTheQueueIsEmpty();
        takesWhatIsSentMeanwhile();
        giveAnswersOneOrTheFailure();
        sumsAndCountsOfNoBox();
        thirtyFailedAreKept();
        failedStayAsTheyWere();
        failedLooksAtWhat();
        countsAreZeroToFour();
        takenEverCountsAll();
        begunInTheLatestCall();
        due.end();
    }

    /** Promise 1: "THE QUEUE is empty." */
    private static void theQueueIsEmptyAtFirst() {
        for (int n = 1; n <= 6; n++) {
            MailRoom x = new MailRoom();
            due.is("count(0)", x.count(0), 0);
            due.is("take(" + n + ")", x.take(n), 0);
            due.is("count(1)", x.count(1), 0);
            due.is("count(4)", x.count(4), 0);
            due.is("post(0, 1)", x.post(0, 1), 1);
        }
    }

    /** Promise 2: "OUTSIDE: SORT 0 .. 11 (ahead of all)" */
    private static void sortsAreZeroToEleven() {
        for (int sort = -2; sort <= 13; sort++) {
            MailRoom x = new MailRoom();
            boolean there = sort >= 0 && sort <= 11;
            due.is("handle(2, " + sort + ", ..)", x.handle(2, sort, 0, 0, 0), there ? 0 : MailRoom.OUTSIDE);
            due.is("handle(10, " + sort + ", ..)", x.handle(10, sort, -1, -1, 0),
                there ? MailRoom.UNKNOWN : MailRoom.OUTSIDE);
            due.is("has(2)", x.has(2), there ? 1 : 0);
            due.is("count(2)", x.count(2), there ? 1 : 0);
        }
    }

    /** Promise 2: "b of 5 (0 .. 100)" */
    private static void limitsAreZeroToAHundred() {
        for (int b : new int[] {MIN, -1, 0, 1, 99, 100, 101, MAX}) {
            MailRoom x = new MailRoom();
            boolean told = b >= 0 && b <= 100;
            due.is("handle(0, 5, 0, " + b + ", 0)", x.handle(0, 5, 0, b, 0), told ? 1 : MailRoom.OUTSIDE);
            due.is("count(2)", x.count(2), told ? 1 : 0);
            due.is("give(0, 1)", x.give(0, 1), b == 0 ? -14 : 1);
            due.is("count(4)", x.count(4), told && b > 0 ? 2 : 1);
        }
    }

    /** Promise 2: "UNKNOWN (ahead of b): k" */
    private static void namesAreLookedAtAheadOfB() {
        MailRoom x = new MailRoom();
        for (int b : new int[] {-1, 0, 100, 101}) {
            for (int k : new int[] {-1, 10}) {
                due.is("handle(" + k + ", 5, 0, " + b + ", 0)", x.handle(k, 5, 0, b, 0), MailRoom.UNKNOWN);
            }
        }
        due.is("handle(9, 5, 0, 101, 0)", x.handle(9, 5, 0, 101, 0), MailRoom.OUTSIDE);
        due.is("handle(9, 5, 0, 100, 0)", x.handle(9, 5, 0, 100, 0), 0);
    }

    private static boolean in(int n, int low, int high) {
        return low <= n && n <= high;
    }

    /** Promise 2: "BOX a of 0, 6, 8, 10, 11, b of 8; kind a of 1, 2, 3, 7" */
    private static void boxesAndKindsOfEachSort() {
        int[] last = {5, 9, 9, 9, MAX, MAX, 5, 9, 5, MAX, 5, 5};
        for (int sort = 0; sort < 12; sort++) {
            for (int a : new int[] {MIN, -1, 0, 5, 6, 9, 10, MAX}) {
                boolean known = last[sort] == MAX || in(a, 0, last[sort]);
                due.is("handle(2, " + sort + ", " + a + ", 0, 1)", new MailRoom().handle(2, sort, a, 0, 1),
                    known ? 0 : MailRoom.UNKNOWN);
            }
        }
        for (int b : new int[] {MIN, -1, 0, 5, 6, 9, 10, MAX}) {
            due.is("handle(2, 8, 0, " + b + ", 1)", new MailRoom().handle(2, 8, 0, b, 1),
                in(b, 0, 5) ? 0 : MailRoom.UNKNOWN);
        }
    }

    /** Promise 2: "(What a SORT has not is not looked at.)" */
    private static void whatASortHasNotIsNotLookedAt() {
        for (int n : new int[] {MIN, -1, 6, 10, 101, MAX}) {
            for (int sort = 0; sort < 12; sort++) {
                boolean hasA = sort != 4 && sort != 5 && sort != 9;
                boolean hasB = sort == 5 || sort == 8;
                due.is("handle(2, " + sort + ", ..), beside it " + n,
                    new MailRoom().handle(2, sort, hasA ? 0 : n, hasB ? 0 : n, 0), 0);
            }
        }
    }

    /** Promise 2: "FULL_UP: 200 were told." */
    private static void twoHundredAreTold() {
        MailRoom x = new MailRoom();
        for (int i = 0; i < 199; i++) {
            due.is("handle number " + i, x.handle(i % 10, 0, 0, 0, 0), i < 10 && i > 1 ? 0 : 1);
        }
        due.is("count(2)", x.count(2), 199);
        due.is("handle(2, 0, 2, 0, 0), the 200th", x.handle(2, 0, 2, 0, 0), 1);
        due.is("count(2)", x.count(2), 200);
        due.is("handle(2, 0, 3, 0, 0), the 201st", x.handle(2, 0, 3, 0, 0), MailRoom.FULL_UP);
        due.is("give(2, 1)", x.give(2, 1), 1);
        due.box(x, 2, 1, 1);
        due.box(x, 3, 0, 0);
        x.drop(2);
        due.is("handle(2, 0, 3, 0, 0), one was dropped", x.handle(2, 0, 3, 0, 0), MailRoom.FULL_UP);
        due.is("has(2)", x.has(2), 0);
    }

    /** Promise 2: a telling that was refused is none of the 200. */
    private static void refusedTellingsAreNotTold() {
        MailRoom x = new MailRoom();
        for (int i = 0; i < 199; i++) {
            x.handle(2, 0, 0, 0, 0);
        }
        for (int i = 0; i < 5; i++) {
            x.handle(2, 12, 0, 0, 0);
            x.handle(10, 0, 0, 0, 0);
            x.handle(2, 5, 0, 101, 0);
        }
        due.is("handle(2, 0, 0, 0, 0), the 200th", x.handle(2, 0, 0, 0, 0), 1);
        due.is("handle(2, 0, 0, 0, 0), the 201st", x.handle(2, 0, 0, 0, 0), MailRoom.FULL_UP);
    }

    /** Promises 3 and 4: "0: it had none. UNKNOWN." and "UNKNOWN." */
    private static void dropAndHas() {
        for (int k : new int[] {0, 1, 2, 9}) {
            MailRoom x = new MailRoom();
            x.handle(k, 0, 0, 0, 0);
            due.is("has(" + k + ")", x.has(k), 1);
            due.is("drop(" + k + ")", x.drop(k), 1);
            due.is("has(" + k + ")", x.has(k), 0);
            due.is("drop(" + k + ")", x.drop(k), 0);
            due.is("has(" + k + ")", x.has(k), 0);
            due.is("handle(" + k + ", 0, 0, 0, 0)", x.handle(k, 0, 0, 0, 0), 0);
        }
        MailRoom x = new MailRoom();
        for (int k : new int[] {MIN, -1, 10, MAX}) {
            due.is("drop(" + k + ")", x.drop(k), MailRoom.UNKNOWN);
            due.is("has(" + k + ")", x.has(k), MailRoom.UNKNOWN);
        }
    }

    /** Promise 5: "how many it has. UNKNOWN; FULL_UP.": in this order; a kind may be without a handler */
    private static void postTellsHowMany() {
        MailRoom x = new MailRoom();
        for (int i = 1; i <= 40; i++) {
            due.is("post(-1, 1)", x.post(-1, 1), MailRoom.UNKNOWN);
            due.is("post(9, 1)", x.post(9, 1), i);
        }
        due.is("post(9, 1)", x.post(9, 1), MailRoom.FULL_UP);
        due.is("post(-1, 1)", x.post(-1, 1), MailRoom.UNKNOWN);
        due.is("post(10, 1)", x.post(10, 1), MailRoom.UNKNOWN);
        due.is("take(6)", x.take(6), 6);
        due.is("post(0, 1)", x.post(0, 1), 35);
    }

    /** Promise 6: "Up to n LETTERS (1 .. 6) are TAKEN .. OUTSIDE." */
    private static void takesOneToSix() {
        for (int n : new int[] {MIN, -1, 0, 1, 2, 5, 6, 7, MAX}) {
            MailRoom x = new MailRoom();
            for (int i = 0; i < 8; i++) {
                x.post(0, 1L << i);
            }
            int many = in(n, 1, 6) ? n : 0;
            due.is("take(" + n + ")", x.take(n), many > 0 ? many : MailRoom.OUTSIDE);
            due.is("count(0)", x.count(0), 8 - many);
            due.is("count(1)", x.count(1), many);
            due.box(x, 0, (1L << many) - 1, many);
        }
    }

    /** Promise 6: "the first one of THE QUEUE each time, till it is empty: how many" */
    private static void takesTillTheQueueIsEmpty() {
        for (int n = 1; n <= 6; n++) {
            for (int there = 0; there <= 7; there++) {
                MailRoom x = new MailRoom();
                for (int i = 0; i < there; i++) {
                    x.post(i % 2 == 0 ? 0 : 9, 1);
                }
                int many = Math.min(n, there);
                due.is("take(" + n + ") of " + there, x.take(n), many);
                due.is("count(0)", x.count(0), there - many);
                due.is("count(3)", x.count(3), many / 2);
                due.is("take(6)", x.take(6), Math.min(6, there - many));
            }
        }
    }

    /** Promise 6: "till it is empty": a letter that was sent meanwhile is there to be taken */
    private static void takesWhatIsSentMeanwhile() {
        MailRoom x = new MailRoom();
        x.handle(2, 1, 2, 0, 1);
        x.post(2, 0);
        due.is("take(6), one that sends itself on", x.take(6), 6);
        due.is("count(0)", x.count(0), 1);
        due.is("count(1)", x.count(1), 6);
        x.handle(2, 0, 2, 0, 0);
        due.is("take(6)", x.take(6), 1);
        due.box(x, 2, 6, 1);
    }

    /** Promise 7: "1; -10 less the FAILURE. UNKNOWN." */
    private static void giveAnswersOneOrTheFailure() {
        MailRoom x = new MailRoom();
        x.handle(9, 0, 5, 0, 0);
        due.is("give(0, 1)", x.give(0, 1), 1);
        due.is("give(9, 1)", x.give(9, 1), 1);
        due.is("give(8, 1)", x.give(8, 1), -11);
        for (int k : new int[] {MIN, -1, 10, MAX}) {
            due.is("give(" + k + ", 1)", x.give(k, 1), MailRoom.UNKNOWN);
        }
        x.handle(9, 3, 9, 0, 0);
        due.is("give(9, 1)", x.give(9, 1), -16);
        due.is("count(1), none was TAKEN", x.count(1), 0);
        due.is("count(3)", x.count(3), 0);
    }

    /** Promises 8 and 9: "0: UNKNOWN." and "UNKNOWN." */
    private static void sumsAndCountsOfNoBox() {
        MailRoom x = new MailRoom();
        for (int box = 0; box < 6; box++) {
            x.handle(2, 0, box, 0, 0);
            x.give(2, 100 + box);
        }
        for (int box : new int[] {MIN, -6, -1, 0, 5, 6, 7, MAX}) {
            boolean there = in(box, 0, 5);
            due.is("sum(" + box + ")", x.sum(box), there ? 100 + box : 0);
            due.is("counted(" + box + ")", x.counted(box), there ? 1 : MailRoom.UNKNOWN);
        }
    }

    private static MailRoom failing(int many) {
        MailRoom x = new MailRoom();
        for (int i = 0; i < many; i++) {
            x.post(2 + i % 8, -1000L - i);
            x.take(1);
        }
        return x;
    }

    /** Promises 10 and 11: "(30 are kept), i from 0 ..; NONE: there is none such"; "0 if there is none such" */
    private static void thirtyFailedAreKept() {
        for (int many : new int[] {0, 1, 29, 30, 31, 60, 61}) {
            MailRoom x = failing(many);
            due.is("count(3)", x.count(3), many);
            for (int i : new int[] {MIN, -1, 0, 1, 28, 29, 30, 31, 59, 60, MAX}) {
                boolean kept = i >= 0 && i < Math.min(many, 30);
                due.is("failed(" + i + ", 0) of " + many, x.failed(i, 0), kept ? 2 + i % 8 : MailRoom.NONE);
                due.is("failed(" + i + ", 1) of " + many, x.failed(i, 1), kept ? 1 : MailRoom.NONE);
                due.is("value(" + i + ") of " + many, x.value(i), kept ? -1000L - i : 0);
            }
        }
    }

    /** Promise 10: one that was kept stays, whatever is told, taken and fails later. */
    private static void failedStayAsTheyWere() {
        MailRoom x = failing(1);
        x.handle(2, 0, 0, 0, 0);
        x.post(2, 5);
        x.post(0, 6);
        x.post(9, 7);
        due.is("take(3)", x.take(3), 3);
        due.is("failed(0, 0)", x.failed(0, 0), 2);
        due.is("value(0)", x.value(0), -1000);
        due.is("failed(1, 0)", x.failed(1, 0), 9);
        due.is("value(1)", x.value(1), 7);
        due.is("failed(2, 0)", x.failed(2, 0), MailRoom.NONE);
    }

    /** Promise 10: "OUTSIDE: what." */
    private static void failedLooksAtWhat() {
        MailRoom x = failing(1);
        for (int what : new int[] {MIN, -1, 0, 1, 2, MAX}) {
            boolean there = what == 0 || what == 1;
            due.is("failed(0, " + what + ")", x.failed(0, what), there ? 2 - what : MailRoom.OUTSIDE);
            due.is("failed(1, " + what + ")", x.failed(1, what), there ? MailRoom.NONE : MailRoom.OUTSIDE);
        }
    }

    /** Promise 12: "OUTSIDE." */
    private static void countsAreZeroToFour() {
        MailRoom x = failing(3);
        x.handle(2, 10, 0, 0, 0);
        x.handle(2, 10, 0, 0, 0);
        x.post(0, 1);
        x.give(2, 1);
        int[] counts = {1, 3, 2, 3, 3};
        for (int what : new int[] {MIN, -1, 0, 1, 2, 3, 4, 5, MAX}) {
            due.is("count(" + what + ")", x.count(what), in(what, 0, 4) ? counts[what] : MailRoom.OUTSIDE);
        }
    }

    /** Promise 12: "1 TAKEN ever", "3 those that FAILED when TAKEN (also those not kept)" */
    private static void takenEverCountsAll() {
        MailRoom x = failing(35);
        due.is("count(1)", x.count(1), 35);
        due.is("count(3)", x.count(3), 35);
        for (int i = 0; i < 40; i++) {
            x.post(i % 2 == 0 ? 0 : 9, 1);
        }
        for (int i = 0; i < 7; i++) {
            x.take(6);
        }
        due.is("count(1), those that did not fail too", x.count(1), 75);
        due.is("count(3)", x.count(3), 55);
        x.give(9, 1);
        due.is("count(1)", x.count(1), 75);
        due.is("count(3)", x.count(3), 55);
    }

    /** Promise 12: "4 HANDLERS that began in the latest give(), take() (missing ones count)" */
    private static void begunInTheLatestCall() {
        MailRoom x = new MailRoom();
        due.is("count(4)", x.count(4), 0);
        x.handle(2, 7, 9, 0, 0);
        x.handle(3, 10, 5, 0, 0);
        x.handle(3, 7, 9, 0, 0);
        due.is("give(2, 1), its former is missing", x.give(2, 1), -11);
        due.is("count(4)", x.count(4), 2);
        due.is("give(3, 1), two are missing", x.give(3, 1), -11);
        due.is("count(4)", x.count(4), 4);
        x.post(9, 1);
        x.post(3, 1);
        x.post(0, 1);
        due.is("count(4), post begins none", x.count(4), 4);
        due.is("take(2)", x.take(2), 2);
        due.is("count(4)", x.count(4), 5);
        due.is("take(6)", x.take(6), 1);
        due.is("count(4)", x.count(4), 1);
        due.is("take(6)", x.take(6), 0);
        due.is("count(4), the queue was empty", x.count(4), 0);
        due.is("give(0, 1)", x.give(0, 1), 1);
        due.is("take(0)", x.take(0), MailRoom.OUTSIDE);
        due.is("take(7)", x.take(7), MailRoom.OUTSIDE);
        due.is("give(10, 1)", x.give(10, 1), MailRoom.UNKNOWN);
        due.is("count(4), a refused call changes nothing", x.count(4), 1);
    }
}
