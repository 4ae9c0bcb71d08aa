/** The readings that README.md lists, where the document leaves room. */
public final class ReadingsTest {
    private static final Due due = new Due();

    public static void main(String[] args) {
        theFirstThirtyAreKept();
        whatIsLookedAtAheadOfI();
        handlersAtFirstAreNotTold();
        onceGivesBackWhateverIsThere();
        kindOneIsOneHandler();
        aLimitThatIsTooDeepCountsNoTime();
        refusedCallsLeaveTheCount();
        aMeanWithoutAFormer();
        ownKindIsTheFormer();
        theLetterHasLeftTheQueue();
        due.end();
    }

    private static void theFirstThirtyAreKept() {
        MailRoom x = new MailRoom();
        for (int i = 0; i < 31; i++) {
            x.post(5, i);
            x.take(1);
        }
        due.is("value(29)", x.value(29), 29);
        due.is("value(0)", x.value(0), 0);
        due.is("value(1)", x.value(1), 1);
        due.is("failed(30, 0)", x.failed(30, 0), MailRoom.NONE);
        due.is("count(3)", x.count(3), 31);
    }

    private static void whatIsLookedAtAheadOfI() {
        MailRoom x = new MailRoom();
        due.is("failed(0, 2)", x.failed(0, 2), MailRoom.OUTSIDE);
        due.is("failed(-1, -1)", x.failed(-1, -1), MailRoom.OUTSIDE);
        due.is("failed(0, 1)", x.failed(0, 1), MailRoom.NONE);
    }

    private static void handlersAtFirstAreNotTold() {
        MailRoom x = new MailRoom();
        due.is("count(2)", x.count(2), 0);
        for (int i = 1; i <= 200; i++) {
            due.is("handle(0, 0, 0, 0, 0), number " + i, x.handle(0, 0, 0, 0, 0), 1);
        }
        due.is("handle(0, 0, 0, 0, 0), number 201", x.handle(0, 0, 0, 0, 0), MailRoom.FULL_UP);
    }

    /** Kind 2's ONCE, run by kind 3: kind 2 was told anew, then dropped. */
    private static void onceGivesBackWhateverIsThere() {
        MailRoom x = new MailRoom();
        x.handle(2, 0, 2, 0, 0);
        x.handle(2, 6, 4, 0, 0);
        x.handle(3, 2, 2, 0, 0);
        x.handle(2, 0, 5, 0, 0);
        due.is("give(3, 7)", x.give(3, 7), 1);
        due.is("give(2, 8)", x.give(2, 8), 1);
        due.box(x, 2, 8, 1);
        due.box(x, 5, 0, 0);
        x.drop(2);
        due.is("give(3, 7)", x.give(3, 7), 1);
        due.is("has(2)", x.has(2), 1);
        due.is("has(3), it is kind 2's", x.has(3), 1);
        due.box(x, 4, 14, 2);
    }

    private static void kindOneIsOneHandler() {
        MailRoom x = new MailRoom();
        due.is("give(1, 2)", x.give(1, 2), 1);
        due.is("count(4)", x.count(4), 1);
        due.is("count(0)", x.count(0), 1);
        for (int i = 1; i < 40; i++) {
            x.post(0, 0);
        }
        due.is("give(1, 2), the queue is full", x.give(1, 2), -15);
        due.box(x, 1, 4, 2);
        due.is("give(1, 1)", x.give(1, 1), 1);
    }

    private static void aLimitThatIsTooDeepCountsNoTime() {
        MailRoom x = new MailRoom();
        x.handle(2, 0, 2, 0, 0);
        x.handle(2, 5, 0, 1, 0);
        for (int i = 0; i < 8; i++) {
            x.handle(3, 2, i == 0 ? 2 : 3, 0, 0);
        }
        due.is("give(3, 1)", x.give(3, 1), -16);
        due.is("give(2, 1)", x.give(2, 1), 1);
        due.is("give(2, 1)", x.give(2, 1), -14);
    }

    private static void refusedCallsLeaveTheCount() {
        MailRoom x = new MailRoom();
        x.give(0, 1);
        due.is("give(10, 1)", x.give(10, 1), MailRoom.UNKNOWN);
        due.is("take(0)", x.take(0), MailRoom.OUTSIDE);
        due.is("count(4)", x.count(4), 1);
        due.is("take(1)", x.take(1), 0);
        due.is("count(4)", x.count(4), 0);
    }

    private static void aMeanWithoutAFormer() {
        MailRoom x = new MailRoom();
        x.handle(2, 11, 2, 0, 0);
        due.is("give(2, 5)", x.give(2, 5), 1);
        due.is("count(4)", x.count(4), 1);
        due.box(x, 2, 5, 1);
    }

    private static void ownKindIsTheFormer() {
        MailRoom x = new MailRoom();
        x.handle(0, 2, 0, 0, 10);
        due.is("give(0, 1), LIKE", x.give(0, 1), 1);
        due.box(x, 0, 11, 1);
        x.handle(0, 7, 0, 0, 0);
        due.is("give(0, 1), BOTH", x.give(0, 1), 1);
        due.is("count(4)", x.count(4), 5);
        due.box(x, 0, 33, 3);
        x.handle(2, 2, 2, 0, 0);
        due.is("give(2, 1), LIKE of none", x.give(2, 1), -11);
    }

    private static void theLetterHasLeftTheQueue() {
        MailRoom x = new MailRoom();
        x.handle(2, 1, 0, 0, 0);
        for (int i = 0; i < 40; i++) {
            x.post(2, i);
        }
        due.is("take(6)", x.take(6), 6);
        due.is("count(3)", x.count(3), 0);
        due.is("count(0)", x.count(0), 40);
    }
}
