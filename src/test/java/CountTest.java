/** Promise 12: count. */
public final class CountTest {
    private static final Due due = new Due();

    public static void main(String[] args) {
        countsEach();
        countsHandlersOfTheLatestCall();
        refuses();
        due.end();
    }

    private static void is(MailRoom x, int queue, int taken, int told, int failed, int begun) {
        due.is("count(0)", x.count(0), queue);
        due.is("count(1)", x.count(1), taken);
        due.is("count(2)", x.count(2), told);
        due.is("count(3)", x.count(3), failed);
        due.is("count(4)", x.count(4), begun);
    }

    private static void countsEach() {
        MailRoom x = new MailRoom();
        x.handle(2, 0, 2, 0, 0);
        x.handle(2, 12, 2, 0, 0);
        x.handle(2, 10, 3, 0, 0);
        is(x, 0, 0, 2, 0, 0);
        x.post(2, 1);
        x.post(9, 1);
        x.post(1, 1);
        x.post(10, 1);
        is(x, 3, 0, 2, 0, 0);
        x.take(2);
        is(x, 1, 2, 2, 1, 3);
        x.take(6);
        is(x, 0, 3, 2, 1, 1);
        x.drop(2);
        is(x, 0, 3, 2, 1, 1);
    }

    private static void countsHandlersOfTheLatestCall() {
        MailRoom x = new MailRoom();
        x.handle(2, 3, 2, 0, 0);
        for (int i = 0; i < 6; i++) {
            x.post(2, 1);
        }
        due.is("take(6)", x.take(6), 6);
        due.is("count(4), of all six letters", x.count(4), 48);
        due.is("take(7)", x.take(7), MailRoom.OUTSIDE);
        due.is("give(-1, 1)", x.give(-1, 1), MailRoom.UNKNOWN);
        x.post(0, 1);
        due.is("count(4), refused calls and others leave it", x.count(4), 48);
        x.give(0, 1);
        due.is("count(4)", x.count(4), 1);
        x.take(1);
        due.is("count(4)", x.count(4), 1);
        x.take(1);
        due.is("count(4), nothing was there to take", x.count(4), 0);
    }

    private static void refuses() {
        MailRoom x = new MailRoom();
        for (int what : new int[] {-1, 5, Integer.MIN_VALUE, Integer.MAX_VALUE}) {
            due.is("count(" + what + ")", x.count(what), MailRoom.OUTSIDE);
        }
    }
}
