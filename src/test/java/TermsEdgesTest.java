/** The sentences of "Terms" that name an edge, ahead of those on the sorts; each stands above its test. */
public final class TermsEdgesTest {
    private static final Due due = new Due();
    private static final long MIN = Long.MIN_VALUE;
    private static final long MAX = Long.MAX_VALUE;

    public static void main(String[] args) {
        boxesAreZeroToFive();
        eachSortNamesItsBoxes();
        kindsAreZeroToNine();
        sumsWrap();
        countsAreZeroAtFirst();
        kindOneSendsWhatIsAboveOne();
        theQueueHasFortyAtMost();
        sendsTillTheQueueIsFull();
        sendsIntoTheRoomOfTheLetterTaken();
        fullThoughItGoesRound();
        eachFailureHasItsNumber();
        theNinthWithinOneAnother();
        theSeventeenthForOneLetter();
        aMissingOneCounts();
        eachLetterHasSixteenOfItsOwn();
        whatWasDoneStaysDone();
        whatWasSentStaysSent();
        due.end();
    }

    private static MailRoom queued(int many) {
        MailRoom x = new MailRoom();
        for (int i = 0; i < many; i++) {
            x.post(0, 1);
        }
        return x;
    }

    private static void onlyBox(MailRoom x, int box, long sum, int count) {
        for (int other = 0; other < 6; other++) {
            due.box(x, other, other == box ? sum : 0, other == box ? count : 0);
        }
    }

    /** "BOXES 0 .. 5" */
    private static void boxesAreZeroToFive() {
        for (int box = -1; box <= 6; box++) {
            boolean there = box >= 0 && box <= 5;
            MailRoom x = new MailRoom();
            due.is("handle(2, 0, " + box + ", 0, 0)", x.handle(2, 0, box, 0, 0), there ? 0 : MailRoom.UNKNOWN);
            due.is("give(2, 7)", x.give(2, 7), there ? 1 : -11);
            due.is("sum(" + box + ")", x.sum(box), there ? 7 : 0);
            due.is("counted(" + box + ")", x.counted(box), there ? 1 : MailRoom.UNKNOWN);
            onlyBox(x, box, 7, 1);
        }
    }

    /** "BOXES 0 .. 5", the first and the last as a of 0, 6, 8, 10, 11 and as b of 8 */
    private static void eachSortNamesItsBoxes() {
        for (int box : new int[] {0, 5}) {
            for (int sort : new int[] {0, 6, 11}) {
                MailRoom x = new MailRoom();
                due.is("handle(2, " + sort + ", " + box + ", ..)", x.handle(2, sort, box, 0, 0), 0);
                due.is("give(2, 9)", x.give(2, 9), 1);
                onlyBox(x, box, 9, 1);
            }
            MailRoom x = new MailRoom();
            due.is("handle(2, 8, " + box + ", ..)", x.handle(2, 8, box, 5 - box, 10), 0);
            due.is("give(2, 37)", x.give(2, 37), 1);
            due.box(x, box, 3, 1);
            due.box(x, 5 - box, 7, 1);
            x = new MailRoom();
            due.is("handle(2, 10, " + box + ", ..)", x.handle(2, 10, box, 0, 0), 0);
            due.is("give(2, 9)", x.give(2, 9), 1);
            onlyBox(x, box, 1, 1);
        }
    }

    /** "KINDS of letters are 0 .. 9" */
    private static void kindsAreZeroToNine() {
        for (int k = -1; k <= 10; k++) {
            boolean there = k >= 0 && k <= 9;
            MailRoom x = new MailRoom();
            int had = k == 0 || k == 1 ? 1 : 0;
            due.is("has(" + k + ")", x.has(k), there ? had : MailRoom.UNKNOWN);
            due.is("handle(" + k + ", 0, 3, 0, 0)", x.handle(k, 0, 3, 0, 0), there ? had : MailRoom.UNKNOWN);
            due.is("has(" + k + ")", x.has(k), there ? 1 : MailRoom.UNKNOWN);
            due.is("give(" + k + ", 4)", x.give(k, 4), there ? 1 : MailRoom.UNKNOWN);
            due.is("post(" + k + ", 5)", x.post(k, 5), there ? 1 : MailRoom.UNKNOWN);
            due.is("take(6)", x.take(6), there ? 1 : 0);
            due.box(x, 3, there ? 9 : 0, there ? 2 : 0);
            due.is("drop(" + k + ")", x.drop(k), there ? 1 : MailRoom.UNKNOWN);
            due.is("drop(" + k + ")", x.drop(k), there ? 0 : MailRoom.UNKNOWN);
            for (int other = 0; other < 10; other++) {
                due.is("has(" + other + ")", x.has(other), other != k && other < 2 ? 1 : 0);
            }
        }
    }

    private static void sumWrapsThrough(MailRoom x, int k, int box) {
        due.is("give(" + k + ", MAX)", x.give(k, MAX), 1);
        due.box(x, box, MAX, 1);
        due.is("give(" + k + ", 1)", x.give(k, 1), 1);
        due.box(x, box, MIN, 2);
        due.is("give(" + k + ", -1)", x.give(k, -1), 1);
        due.box(x, box, MAX, 3);
        due.is("give(" + k + ", MIN)", x.give(k, MIN), 1);
        due.box(x, box, -1, 4);
        due.is("give(" + k + ", MAX)", x.give(k, MAX), 1);
        due.box(x, box, MAX - 1, 5);
    }

    /** "have a SUM (a long, that wraps)" */
    private static void sumsWrap() {
        sumWrapsThrough(new MailRoom(), 0, 0);
        sumWrapsThrough(new MailRoom(), 1, 1);
        MailRoom x = new MailRoom();
        x.handle(2, 0, 5, 0, 0);
        sumWrapsThrough(x, 2, 5);
        x = new MailRoom();
        x.handle(2, 11, 5, 0, 0);
        sumWrapsThrough(x, 2, 5);
        x = new MailRoom();
        x.handle(2, 8, 5, 4, 1);
        sumWrapsThrough(x, 2, 5);
        x = new MailRoom();
        x.handle(2, 8, 4, 5, MIN);
        due.is("give(2, MAX)", x.give(2, MAX), 1);
        due.is("give(2, MAX)", x.give(2, MAX), 1);
        due.box(x, 5, -2, 2);
        x = new MailRoom();
        x.handle(2, 6, 5, 0, 0);
        x.handle(3, 2, 2, 0, 0);
        sumWrapsThrough(x, 3, 5);
    }

    /** "and a COUNT (0 at first)" */
    private static void countsAreZeroAtFirst() {
        MailRoom x = new MailRoom();
        onlyBox(x, -1, 0, 0);
        x.give(0, 0);
        due.box(x, 0, 0, 1);
    }

    /** "SENDS on to kind 0 (its value less 1, if it is above 1; else nothing is sent)" */
    private static void kindOneSendsWhatIsAboveOne() {
        for (long v : new long[] {MIN, MIN + 1, -1, 0, 1, 2, 3, 1L << 32, MAX}) {
            MailRoom x = new MailRoom();
            due.is("give(1, " + v + ")", x.give(1, v), 1);
            due.box(x, 1, v, 1);
            due.is("count(0) behind give(1, " + v + ")", x.count(0), v > 1 ? 1 : 0);
            due.is("take(6)", x.take(6), v > 1 ? 1 : 0);
            due.box(x, 0, v > 1 ? v - 1 : 0, v > 1 ? 1 : 0);
        }
    }

    /** "THE QUEUE has 40 at most." */
    private static void theQueueHasFortyAtMost() {
        MailRoom x = queued(39);
        due.is("count(0)", x.count(0), 39);
        due.is("post(0, 1), the 40th", x.post(0, 1), 40);
        due.is("post(0, 1), the 41st", x.post(0, 1), MailRoom.FULL_UP);
        due.is("count(0)", x.count(0), 40);
        for (int i = 0; i < 6; i++) {
            due.is("take(6)", x.take(6), 6);
        }
        due.is("take(6)", x.take(6), 4);
        due.is("take(6)", x.take(6), 0);
        due.box(x, 0, 40, 40);
        due.is("post(0, 1), it is empty", x.post(0, 1), 1);
    }

    /** "5 FULL (THE QUEUE)": SEND, and kind 1 as it is at first, for the 40th letter and for the 41st */
    private static void sendsTillTheQueueIsFull() {
        for (int k : new int[] {1, 2}) {
            MailRoom x = queued(39);
            x.handle(2, 1, 3, 0, 1);
            due.is("give(" + k + ", 2), the 40th", x.give(k, 2), 1);
            due.is("count(0)", x.count(0), 40);
            due.is("give(" + k + ", 2), the 41st", x.give(k, 2), -15);
            due.is("count(0)", x.count(0), 40);
            due.is("take(1)", x.take(1), 1);
            due.is("give(" + k + ", 2), there is room", x.give(k, 2), 1);
            due.is("count(0)", x.count(0), 40);
        }
    }

    /** A LETTER that is TAKEN is in THE QUEUE no more when its HANDLER begins. */
    private static void sendsIntoTheRoomOfTheLetterTaken() {
        MailRoom x = new MailRoom();
        x.handle(2, 1, 3, 0, 1);
        x.handle(3, 0, 3, 0, 0);
        for (int i = 0; i < 40; i++) {
            x.post(i < 3 ? 2 : 0, i);
        }
        due.is("take(3)", x.take(3), 3);
        due.is("count(3)", x.count(3), 0);
        due.is("count(0)", x.count(0), 40);
        for (int i = 0; i < 6; i++) {
            due.is("take(6)", x.take(6), 6);
        }
        due.box(x, 3, 0, 0);
        due.is("count(0), the letters sent are the last", x.count(0), 4);
        due.is("take(6)", x.take(6), 4);
        due.box(x, 3, 1 + 2 + 3, 3);
    }

    /** "THE QUEUE has 40 at most", wherever its first letter stands */
    private static void fullThoughItGoesRound() {
        for (int ahead = 1; ahead <= 45; ahead += 4) {
            MailRoom x = new MailRoom();
            for (int i = 0; i < ahead; i++) {
                x.post(0, 0);
                x.take(1);
            }
            x.handle(2, 9, 0, 0, 0);
            for (int i = 0; i < 40; i++) {
                due.is("post number " + i, x.post(2, i % 6), i + 1);
            }
            due.is("post(2, 0)", x.post(2, 0), MailRoom.FULL_UP);
            for (int i = 0; i < 40; i++) {
                int box = i % 6;
                int before = x.counted(box);
                due.is("take(1)", x.take(1), 1);
                due.is("counted(" + box + "), in their order", x.counted(box), before + 1);
            }
            due.is("take(1)", x.take(1), 0);
        }
    }

    /** "FAILURES: 1 MISSING .., 2 ZERO, 3 INDEX, 4 OVER, 5 FULL (THE QUEUE), 6 DEEP" */
    private static void eachFailureHasItsNumber() {
        for (int failure = 1; failure <= 6; failure++) {
            MailRoom x = new MailRoom();
            x.handle(3, 4, 0, 0, 0);
            x.handle(4, 9, 0, 0, 0);
            x.handle(5, 5, 0, 0, 0);
            x.handle(6, 1, 0, 0, 0);
            x.handle(6, 7, 6, 0, 0);
            x.handle(7, 3, 7, 0, 0);
            int k = failure + 1;
            x.post(k, 8);
            for (int i = 1; i < 40; i++) {
                x.post(0, 1);
            }
            due.is("take(1), failure " + failure, x.take(1), 1);
            due.is("failed(0, 0)", x.failed(0, 0), k);
            due.is("failed(0, 1)", x.failed(0, 1), failure);
            due.is("value(0)", x.value(0), 8);
            due.is("count(3)", x.count(3), 1);
            x.post(0, 1);
            due.is("give(" + k + ", 8)", x.give(k, 8), -10 - failure);
            due.is("count(3), one that is given is not TAKEN", x.count(3), 1);
        }
    }

    /** So many handlers within one another for kind 2, the innermost of which keeps in box 2. */
    private static MailRoom within(int many) {
        MailRoom x = new MailRoom();
        x.handle(2, 0, 2, 0, 0);
        for (int i = 1; i < many; i++) {
            x.handle(2, 5, 0, 100, 0);
        }
        return x;
    }

    /** "6 DEEP (a 9th HANDLER within one another .. would begin)" */
    private static void theNinthWithinOneAnother() {
        for (int many = 7; many <= 10; many++) {
            MailRoom x = within(many);
            due.is("give(2, 3), " + many + " within one another", x.give(2, 3), many <= 8 ? 1 : -16);
            due.is("count(4)", x.count(4), Math.min(many, 8));
            due.box(x, 2, many <= 8 ? 3 : 0, many <= 8 ? 1 : 0);
            x.post(2, 3);
            due.is("take(1)", x.take(1), 1);
            due.is("count(3)", x.count(3), many <= 8 ? 0 : 1);
            due.is("failed(0, 1)", x.failed(0, 1), many <= 8 ? MailRoom.NONE : 6);
            due.is("count(4)", x.count(4), Math.min(many, 8));
        }
    }

    /** For kind 2, one handler for each BOTH and one for each of its parts: 2 * boths + 1 in all. */
    private static MailRoom beside(int boths) {
        MailRoom x = new MailRoom();
        x.handle(3, 0, 3, 0, 0);
        x.handle(2, 0, 2, 0, 0);
        for (int i = 0; i < boths; i++) {
            x.handle(2, 7, 3, 0, 0);
        }
        return x;
    }

    /** "or the 17th for one LETTER, would begin": 15 in all, then 16, 17, none of them a 9th within another */
    private static void theSeventeenthForOneLetter() {
        MailRoom x = beside(7);
        due.is("give(2, 1), 15", x.give(2, 1), 1);
        due.is("count(4)", x.count(4), 15);
        due.box(x, 2, 1, 1);
        due.box(x, 3, 7, 7);
        x = beside(6);
        x.handle(4, 7, 3, 0, 0);
        x.handle(4, 2, 2, 0, 0);
        x.handle(2, 7, 4, 0, 0);
        due.is("give(2, 1), the 17th fails", x.give(2, 1), -16);
        due.is("count(4)", x.count(4), 16);
        x = beside(6);
        x.handle(4, 2, 3, 0, 0);
        x.handle(2, 7, 4, 0, 0);
        due.is("give(2, 1), 16", x.give(2, 1), 1);
        due.is("count(4)", x.count(4), 16);
        due.box(x, 3, 7, 7);
        x = beside(6);
        x.handle(4, 2, 3, 0, 0);
        x.handle(4, 2, 4, 0, 0);
        x.handle(2, 7, 4, 0, 0);
        due.is("give(2, 1), 17", x.give(2, 1), -16);
        due.is("count(4)", x.count(4), 16);
        due.box(x, 2, 1, 1);
        due.box(x, 3, 6, 6);
        x.post(2, 1);
        due.is("take(1)", x.take(1), 1);
        due.is("failed(0, 1)", x.failed(0, 1), 6);
        due.is("count(4)", x.count(4), 16);
    }

    /** "a missing one counts": as the 8th or 9th within one another, as the 16th or 17th for one letter */
    private static void aMissingOneCounts() {
        for (int limits = 6; limits <= 9; limits++) {
            MailRoom x = new MailRoom();
            for (int i = 0; i < limits; i++) {
                x.handle(2, 5, 0, 100, 0);
            }
            due.is("give(2, 1), a missing one within " + limits, x.give(2, 1), limits <= 7 ? -11 : -16);
            due.is("count(4)", x.count(4), Math.min(limits + 1, 8));
        }
        for (int likes = 0; likes <= 2; likes++) {
            MailRoom x = beside(6);
            for (int i = 0; i < likes; i++) {
                x.handle(4, 2, 4, 0, 0);
            }
            x.handle(2, 7, 4, 0, 0);
            due.is("give(2, 1), a missing one as number " + (15 + likes), x.give(2, 1), likes <= 1 ? -11 : -16);
            due.is("count(4)", x.count(4), Math.min(15 + likes, 16));
        }
        MailRoom x = new MailRoom();
        due.is("give(9, 1)", x.give(9, 1), -11);
        due.is("count(4)", x.count(4), 1);
    }

    private static void eachLetterHasSixteenOfItsOwn() {
        MailRoom x = beside(7);
        x.handle(5, 0, 5, 0, 0);
        x.handle(5, 7, 2, 0, 0);
        for (int i = 0; i < 6; i++) {
            x.post(2, 1);
        }
        due.is("take(6)", x.take(6), 6);
        due.is("count(3)", x.count(3), 0);
        due.is("count(4)", x.count(4), 90);
        due.is("give(5, 1)", x.give(5, 1), -16);
        due.is("give(2, 1), behind one that was DEEP", x.give(2, 1), 1);
        due.is("count(4)", x.count(4), 15);
    }

    /** "What a HANDLER did ahead of its FAILURE stays done": what was kept, counted and given back */
    private static void whatWasDoneStaysDone() {
        MailRoom x = new MailRoom();
        x.handle(2, 0, 2, 0, 0);
        x.handle(2, 7, 9, 0, 0);
        due.is("give(2, 4), BOTH, the second is missing", x.give(2, 4), -11);
        due.box(x, 2, 4, 1);
        x.handle(3, 9, 0, 0, 0);
        x.handle(3, 11, 3, 0, 0);
        due.is("give(3, 6), MEAN, its former fails", x.give(3, 6), -13);
        due.box(x, 3, 6, 1);
        x.handle(4, 6, 4, 0, 0);
        x.handle(4, 7, 9, 0, 0);
        due.is("give(4, 5), ONCE, then a missing one", x.give(4, 5), -11);
        due.box(x, 4, 5, 1);
        due.is("has(4)", x.has(4), 0);
        x.handle(5, 5, 0, 1, 0);
        due.is("give(5, 1), LIMIT, its former is missing", x.give(5, 1), -11);
        due.is("give(5, 1), its one time is gone", x.give(5, 1), -14);
        x.handle(6, 11, 5, 0, 0);
        x.handle(6, 7, 6, 0, 0);
        x.handle(6, 7, 6, 0, 0);
        x.handle(6, 7, 6, 0, 0);
        x.handle(6, 7, 6, 0, 0);
        due.is("give(6, 1), DEEP", x.give(6, 1), -16);
        due.is("count(4)", x.count(4), 16);
        due.box(x, 5, 8, 8);
        x = queued(40);
        due.is("give(1, 7), FULL", x.give(1, 7), -15);
        due.box(x, 1, 7, 1);
    }

    /** "What a HANDLER did ahead of its FAILURE stays done": a letter that was sent stays in the queue */
    private static void whatWasSentStaysSent() {
        MailRoom x = queued(0);
        x.handle(2, 1, 0, 0, 5);
        x.handle(2, 7, 9, 0, 0);
        due.is("give(2, 4)", x.give(2, 4), -11);
        due.is("count(0)", x.count(0), 1);
        due.is("take(6)", x.take(6), 1);
        due.box(x, 0, 9, 1);
        x.handle(2, 10, 5, 0, 0);
        due.is("give(2, 4), the failure is caught", x.give(2, 4), 1);
        due.is("count(0)", x.count(0), 1);
        due.box(x, 5, 1, 1);
    }
}
