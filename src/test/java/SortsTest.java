/** Promise 2: what a handler of each sort does with a value. */
public final class SortsTest {
    private static final Due due = new Due();
    private static final long MIN = Long.MIN_VALUE;
    private static final long MAX = Long.MAX_VALUE;

    public static void main(String[] args) {
        keep();
        send();
        like();
        now();
        sift();
        limit();
        limitThatComesToItself();
        once();
        onceThatIsKeptElsewhere();
        both();
        share();
        point();
        catches();
        mean();
        formersStayAsTheyWere();
        due.end();
    }

    private static void keep() {
        MailRoom x = new MailRoom();
        x.handle(2, 0, 5, 0, 100);
        due.is("give(2, 7)", x.give(2, 7), 1);
        due.box(x, 5, 7, 1);
        x.give(2, MAX);
        due.box(x, 5, MAX + 7, 2);
    }

    private static void send() {
        MailRoom x = new MailRoom();
        x.handle(2, 1, 0, 0, 10);
        due.is("give(2, MAX)", x.give(2, MAX), 1);
        due.box(x, 0, 0, 0);
        due.is("count(0)", x.count(0), 1);
        due.is("take(1)", x.take(1), 1);
        due.box(x, 0, MAX + 10, 1);
        for (int i = 0; i < 40; i++) {
            x.post(3, i);
        }
        due.is("give(2, 1), the queue is full", x.give(2, 1), -15);
        due.is("count(0)", x.count(0), 40);
    }

    private static void like() {
        MailRoom x = new MailRoom();
        x.handle(2, 2, 0, 0, -3);
        x.handle(3, 2, 4, 0, 0);
        x.handle(0, 0, 5, 0, 0);
        x.handle(4, 0, 5, 0, 0);
        due.is("give(2, 5)", x.give(2, 5), 1);
        due.box(x, 0, 2, 1);
        due.is("count(4)", x.count(4), 2);
        due.is("give(3, 5), kind 4 had none then", x.give(3, 5), -11);
        due.is("count(4)", x.count(4), 2);
        x.handle(4, 2, 4, 0, 1);
        due.is("give(4, 5), like its own former", x.give(4, 5), 1);
        due.box(x, 5, 6, 1);
        x.handle(6, 2, 4, 0, 1);
        due.is("give(6, MAX), wraps", x.give(6, MAX), 1);
        due.box(x, 5, MAX + 2 + 6, 2);
    }

    private static void now() {
        MailRoom x = new MailRoom();
        x.handle(2, 3, 3, 0, 4);
        due.is("give(2, 1)", x.give(2, 1), -11);
        due.is("count(4)", x.count(4), 2);
        x.handle(3, 0, 3, 0, 0);
        due.is("give(2, 1)", x.give(2, 1), 1);
        due.box(x, 3, 5, 1);
        x.handle(3, 0, 4, 0, 0);
        due.is("give(2, MAX)", x.give(2, MAX), 1);
        due.box(x, 4, MAX + 4, 1);
        x.drop(3);
        due.is("give(2, 1)", x.give(2, 1), -11);
    }

    private static void sift() {
        MailRoom x = new MailRoom();
        x.handle(0, 4, -2, 0, 3);
        due.is("give(0, -5)", x.give(0, -5), 1);
        due.box(x, 0, -5, 1);
        due.is("give(0, 4), sifted out", x.give(0, 4), 1);
        due.is("count(4)", x.count(4), 1);
        due.box(x, 0, -5, 1);
        x.handle(2, 4, 1, 0, 0);
        due.is("give(2, 1), c is zero", x.give(2, 1), -12);
        x.handle(3, 4, 0, 0, -1);
        due.is("give(3, MIN), no former", x.give(3, MIN), -11);
        x.handle(4, 4, 1, 0, -1);
        due.is("give(4, MIN), no former and sifted out", x.give(4, MIN), 1);
        x.handle(5, 0, 5, 0, 0);
        x.handle(5, 4, 0, 0, MAX);
        due.is("give(5, 4294967296), its rest is no int", x.give(5, 4294967296L), 1);
        due.box(x, 5, 0, 0);
    }

    private static void limit() {
        MailRoom x = new MailRoom();
        x.handle(0, 5, 0, 3, 0);
        x.handle(2, 2, 0, 0, 0);
        x.handle(3, 3, 0, 0, 0);
        due.is("give(0, 1)", x.give(0, 1), 1);
        due.is("give(2, 1), like it", x.give(2, 1), 1);
        due.is("give(3, 1), it by now", x.give(3, 1), 1);
        due.is("give(0, 1)", x.give(0, 1), -14);
        due.is("give(2, 1)", x.give(2, 1), -14);
        due.is("count(4)", x.count(4), 2);
        due.box(x, 0, 3, 3);
        x.handle(0, 5, 0, 100, 0);
        due.is("give(0, 1), a limit on one that is over", x.give(0, 1), -14);
        x.handle(4, 0, 4, 0, 0);
        x.handle(4, 5, 0, 1, 0);
        x.handle(4, 5, 0, 2, 0);
        due.is("give(4, 1)", x.give(4, 1), 1);
        due.is("give(4, 1), the inner is over", x.give(4, 1), -14);
        due.box(x, 4, 1, 1);
        x.handle(5, 5, 0, 1, 0);
        due.is("give(5, 1), no former", x.give(5, 1), -11);
        due.is("give(5, 1), it counts though it failed", x.give(5, 1), -14);
        x.handle(6, 5, 0, 0, 0);
        due.is("give(6, 1)", x.give(6, 1), -14);
    }

    private static void limitThatComesToItself() {
        MailRoom x = new MailRoom();
        x.handle(2, 3, 2, 0, 0);
        x.handle(2, 5, 0, 2, 0);
        due.is("give(2, 1), counts as it begins", x.give(2, 1), -14);
        due.is("count(4)", x.count(4), 5);
    }

    private static void once() {
        MailRoom x = new MailRoom();
        x.handle(2, 6, 3, 0, 0);
        due.is("give(2, 4)", x.give(2, 4), 1);
        due.is("has(2)", x.has(2), 0);
        due.is("give(2, 4)", x.give(2, 4), -11);
        due.box(x, 3, 4, 1);
        x.handle(0, 6, 4, 0, 0);
        x.post(0, 7);
        x.post(0, 8);
        due.is("take(2)", x.take(2), 2);
        due.box(x, 4, 7, 1);
        due.box(x, 0, 8, 1);
    }

    private static void onceThatIsKeptElsewhere() {
        MailRoom x = new MailRoom();
        x.handle(2, 0, 2, 0, 0);
        x.handle(2, 6, 3, 0, 0);
        x.handle(3, 2, 2, 0, 0);
        due.is("give(3, 5), like the one for 2", x.give(3, 5), 1);
        due.box(x, 3, 5, 1);
        due.is("give(2, 6), kind 2 has its former", x.give(2, 6), 1);
        due.box(x, 2, 6, 1);
        due.is("has(3)", x.has(3), 1);
        x.drop(2);
        due.is("give(3, 5), again", x.give(3, 5), 1);
        due.is("has(2), its former again", x.has(2), 1);
        x.handle(4, 6, 4, 0, 0);
        x.handle(4, 10, 5, 0, 0);
        due.is("give(4, 1), a former that stands for once", x.give(4, 1), 1);
        due.is("has(4)", x.has(4), 0);
        due.box(x, 4, 1, 1);
    }

    private static void both() {
        MailRoom x = new MailRoom();
        x.handle(2, 0, 2, 0, 0);
        x.handle(2, 7, 0, 0, 50);
        x.handle(0, 0, 5, 0, 0);
        due.is("give(2, 3)", x.give(2, 3), 1);
        due.box(x, 2, 3, 1);
        due.box(x, 0, 3, 1);
        due.box(x, 5, 0, 0);
        due.is("count(4)", x.count(4), 3);
        x.handle(3, 7, 0, 0, 0);
        due.is("give(3, 3), no former", x.give(3, 3), -11);
        due.is("count(4)", x.count(4), 2);
        due.box(x, 5, 0, 0);
        x.handle(0, 7, 4, 0, 0);
        due.is("give(0, 3), kind 4 had none", x.give(0, 3), -11);
        due.is("count(4)", x.count(4), 3);
        due.box(x, 5, 3, 1);
    }

    private static void share() {
        MailRoom x = new MailRoom();
        x.handle(2, 8, 2, 3, -4);
        due.is("give(2, 11)", x.give(2, 11), 1);
        due.box(x, 2, -2, 1);
        due.box(x, 3, 3, 1);
        due.is("give(2, -11)", x.give(2, -11), 1);
        due.box(x, 2, 0, 2);
        due.box(x, 3, 0, 2);
        x.handle(2, 8, 4, 4, 10);
        due.is("give(2, 23), one box for both", x.give(2, 23), 1);
        due.box(x, 4, 5, 2);
        x.handle(2, 8, 5, 5, 0);
        due.is("give(2, 23), c is zero", x.give(2, 23), -12);
        due.box(x, 5, 0, 0);
        x.handle(2, 8, 5, 0, -1);
        due.is("give(2, MIN)", x.give(2, MIN), 1);
        due.box(x, 5, MIN, 1);
        due.box(x, 0, 0, 1);
    }

    private static void point() {
        MailRoom x = new MailRoom();
        x.handle(2, 9, 0, 0, 0);
        due.is("give(2, 0)", x.give(2, 0), 1);
        due.is("give(2, 5)", x.give(2, 5), 1);
        due.is("give(2, 2 ^ 32 + 5)", x.give(2, 4294967301L), 1);
        due.box(x, 0, 1, 1);
        due.box(x, 5, 2, 2);
        for (long v : new long[] {6, -1, MAX, 2147483648L}) {
            due.is("give(2, " + v + ")", x.give(2, v), -13);
        }
        due.is("give(2, MIN), as an int it is 0", x.give(2, MIN), 1);
        due.box(x, 0, 2, 2);
    }

    private static void catches() {
        MailRoom x = new MailRoom();
        x.handle(0, 10, 5, 0, 0);
        due.is("give(0, 9), nothing to catch", x.give(0, 9), 1);
        due.box(x, 0, 9, 1);
        due.box(x, 5, 0, 0);
        x.handle(2, 10, 2, 0, 0);
        due.is("give(2, 1), MISSING", x.give(2, 1), 1);
        due.box(x, 2, 1, 1);
        due.is("count(4)", x.count(4), 2);
        x.handle(3, 8, 0, 0, 0);
        x.handle(3, 10, 3, 0, 0);
        due.is("give(3, 1), ZERO", x.give(3, 1), 1);
        due.box(x, 3, 2, 1);
        x.handle(4, 9, 0, 0, 0);
        x.handle(4, 10, 4, 0, 0);
        due.is("give(4, 6), INDEX", x.give(4, 6), 1);
        due.box(x, 4, 3, 1);
        x.handle(6, 5, 0, 0, 0);
        x.handle(6, 10, 4, 0, 0);
        due.is("give(6, 1), OVER", x.give(6, 1), 1);
        due.box(x, 4, 7, 2);
        x.handle(7, 1, 0, 0, 0);
        x.handle(7, 10, 4, 0, 0);
        for (int i = 0; i < 40; i++) {
            x.post(0, 0);
        }
        due.is("give(7, 1), FULL", x.give(7, 1), 1);
        due.box(x, 4, 12, 3);
        x.handle(8, 3, 8, 0, 0);
        x.handle(8, 10, 1, 0, 0);
        due.is("give(8, 1), DEEP is not caught", x.give(8, 1), -16);
        due.box(x, 1, 0, 0);
    }

    private static void mean() {
        MailRoom x = new MailRoom();
        x.handle(2, 0, 2, 0, 0);
        x.handle(2, 11, 3, 0, 0);
        due.is("give(2, 5)", x.give(2, 5), 1);
        due.box(x, 2, 5, 1);
        due.is("give(2, -12)", x.give(2, -12), 1);
        due.box(x, 3, -7, 2);
        due.box(x, 2, 2, 2);
        x.handle(4, 11, 4, 0, 0);
        due.is("give(4, 6), no former is no failure", x.give(4, 6), 1);
        due.is("count(4), nor does it count", x.count(4), 1);
        due.box(x, 4, 6, 1);
        x.handle(5, 9, 0, 0, 0);
        x.handle(5, 11, 5, 0, 0);
        due.is("give(5, 6), its former fails", x.give(5, 6), -13);
        due.box(x, 5, 6, 1);
        x.handle(0, 11, 0, 0, 0);
        due.is("give(0, 3), its former keeps in the same box", x.give(0, 3), 1);
        due.box(x, 0, 6, 2);
    }

    private static void formersStayAsTheyWere() {
        MailRoom x = new MailRoom();
        x.handle(2, 0, 2, 0, 0);
        x.handle(2, 10, 5, 0, 0);
        x.handle(3, 2, 2, 0, 0);
        x.handle(2, 0, 4, 0, 0);
        x.drop(2);
        due.is("give(3, 8)", x.give(3, 8), 1);
        due.box(x, 2, 8, 1);
        due.box(x, 4, 0, 0);
        x.handle(2, 10, 5, 0, 0);
        due.is("give(2, 8), a dropped one is no former", x.give(2, 8), 1);
        due.box(x, 5, 1, 1);
    }
}
