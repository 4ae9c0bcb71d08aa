/** Promises 10 and 11: failed and value. */
public final class FailedTest {
    private static final Due due = new Due();

    public static void main(String[] args) {
        tellsKindFailureAndValue();
        tellsTheLetterNotWhatCameOfIt();
        tellsAFullQueue();
        keepsTheFirstThirty();
        refuses();
        due.end();
    }

    private static void is(MailRoom x, int i, int kind, int failure, long value) {
        due.is("failed(" + i + ", 0)", x.failed(i, 0), kind);
        due.is("failed(" + i + ", 1)", x.failed(i, 1), failure);
        due.is("value(" + i + ")", x.value(i), value);
    }

    private static void tellsKindFailureAndValue() {
        MailRoom x = new MailRoom();
        x.handle(3, 4, 0, 0, 0);
        x.handle(4, 9, 0, 0, 0);
        x.handle(5, 5, 0, 0, 0);
        x.handle(6, 3, 6, 0, 0);
        x.post(2, 20);
        x.post(0, 1);
        x.post(3, Long.MIN_VALUE);
        x.post(4, -40);
        x.post(5, 50);
        x.post(6, Long.MAX_VALUE);
        due.is("take(6)", x.take(6), 6);
        is(x, 0, 2, 1, 20);
        is(x, 1, 3, 2, Long.MIN_VALUE);
        is(x, 2, 4, 3, -40);
        is(x, 3, 5, 4, 50);
        is(x, 4, 6, 6, Long.MAX_VALUE);
        is(x, 5, MailRoom.NONE, MailRoom.NONE, 0);
        x.drop(3);
        is(x, 1, 3, 2, Long.MIN_VALUE);
    }

    private static void tellsTheLetterNotWhatCameOfIt() {
        MailRoom x = new MailRoom();
        x.handle(2, 3, 3, 0, 100);
        x.post(2, 7);
        x.handle(4, 1, 5, 0, 100);
        x.post(4, 7);
        due.is("take(6)", x.take(6), 3);
        is(x, 0, 2, 1, 7);
        is(x, 1, 5, 1, 107);
    }

    private static void tellsAFullQueue() {
        MailRoom x = new MailRoom();
        x.handle(2, 1, 0, 0, 0);
        x.handle(2, 7, 2, 0, 0);
        x.post(2, 9);
        for (int i = 0; i < 39; i++) {
            x.post(0, 1);
        }
        due.is("take(1), one room for two letters", x.take(1), 1);
        is(x, 0, 2, 5, 9);
        due.is("count(0)", x.count(0), 40);
    }

    private static void keepsTheFirstThirty() {
        MailRoom x = new MailRoom();
        for (int i = 0; i < 36; i++) {
            x.post(2 + i % 8, 100 + i);
        }
        for (int i = 0; i < 6; i++) {
            due.is("take(6)", x.take(6), 6);
        }
        for (int i = 0; i < 30; i++) {
            is(x, i, 2 + i % 8, 1, 100 + i);
        }
        for (int i = 30; i < 37; i++) {
            is(x, i, MailRoom.NONE, MailRoom.NONE, 0);
        }
        due.is("count(3)", x.count(3), 36);
    }

    private static void refuses() {
        MailRoom x = new MailRoom();
        x.post(2, 5);
        x.take(1);
        for (int what : new int[] {-1, 2, Integer.MIN_VALUE, Integer.MAX_VALUE}) {
            due.is("failed(0, " + what + ")", x.failed(0, what), MailRoom.OUTSIDE);
            due.is("failed(-1, " + what + ")", x.failed(-1, what), MailRoom.OUTSIDE);
        }
        for (int i : new int[] {-1, 1, 30, Integer.MIN_VALUE, Integer.MAX_VALUE}) {
            is(x, i, MailRoom.NONE, MailRoom.NONE, 0);
        }
    }
}
