/** Promise 1: a new object. */
public final class NewRoomTest {
    private static final Due due = new Due();

    public static void main(String[] args) {
        nothingIsInIt();
        kindZeroKeeps();
        kindOneKeepsAndSends();
        kindOneFailsWhenTheQueueIsFull();
        roomsShareNothing();
        due.end();
    }

    private static void nothingIsInIt() {
        MailRoom x = new MailRoom();
        for (int box = 0; box < 6; box++) {
            due.box(x, box, 0, 0);
        }
        for (int k = 0; k < 10; k++) {
            due.is("has(" + k + ")", x.has(k), k < 2 ? 1 : 0);
        }
        for (int what = 0; what < 5; what++) {
            due.is("count(" + what + ")", x.count(what), 0);
        }
        due.is("failed(0, 0)", x.failed(0, 0), MailRoom.NONE);
        due.is("value(0)", x.value(0), 0);
        due.is("take(6)", x.take(6), 0);
    }

    private static void kindZeroKeeps() {
        MailRoom x = new MailRoom();
        due.is("give(0, -8)", x.give(0, -8), 1);
        due.box(x, 0, -8, 1);
        due.is("count(0)", x.count(0), 0);
    }

    private static void kindOneKeepsAndSends() {
        MailRoom x = new MailRoom();
        due.is("give(1, 2)", x.give(1, 2), 1);
        due.is("count(4), keeping and sending is one handler", x.count(4), 1);
        due.is("count(0)", x.count(0), 1);
        due.box(x, 1, 2, 1);
        due.is("take(1)", x.take(1), 1);
        due.box(x, 0, 1, 1);
        for (long v : new long[] {1, 0, -1, Long.MIN_VALUE}) {
            due.is("give(1, " + v + ")", x.give(1, v), 1);
            due.is("count(0) behind it", x.count(0), 0);
        }
        due.box(x, 1, 2 + Long.MIN_VALUE, 5);
    }

    private static void kindOneFailsWhenTheQueueIsFull() {
        MailRoom x = new MailRoom();
        for (int i = 0; i < 40; i++) {
            x.post(0, 1);
        }
        due.is("give(1, 1), that sends nothing", x.give(1, 1), 1);
        due.is("give(1, 2)", x.give(1, 2), -15);
        due.box(x, 1, 3, 2);
        due.is("count(0)", x.count(0), 40);
    }

    private static void roomsShareNothing() {
        MailRoom one = new MailRoom();
        MailRoom two = new MailRoom();
        one.give(0, 5);
        one.post(3, 1);
        one.drop(1);
        due.box(two, 0, 0, 0);
        due.is("count(0)", two.count(0), 0);
        due.is("has(1)", two.has(1), 1);
    }
}
