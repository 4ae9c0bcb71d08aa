/** Promises 5 and 6: post and take. */
public final class PostTakeTest {
    private static final Due due = new Due();

    public static void main(String[] args) {
        postsTillFull();
        takesTheFirstEachTime();
        takesWhatComesMeanwhile();
        takesAsTheHandlersStandByThen();
        takesOnBehindFailures();
        aLetterTakenMakesRoom();
        goesRoundAndRound();
        refuses();
        due.end();
    }

    private static void postsTillFull() {
        MailRoom x = new MailRoom();
        for (int i = 1; i <= 40; i++) {
            due.is("post number " + i, x.post(9, i), i);
        }
        due.is("post(9, 1)", x.post(9, 1), MailRoom.FULL_UP);
        due.is("post(10, 1)", x.post(10, 1), MailRoom.UNKNOWN);
        due.is("count(0)", x.count(0), 40);
        due.is("take(1)", x.take(1), 1);
        due.is("post(9, 1)", x.post(9, 1), 40);
    }

    private static void takesTheFirstEachTime() {
        MailRoom x = new MailRoom();
        x.handle(2, 9, 0, 0, 0);
        for (int i = 0; i < 4; i++) {
            x.post(2, i);
        }
        due.is("take(3)", x.take(3), 3);
        due.box(x, 0, 1, 1);
        due.box(x, 2, 1, 1);
        due.box(x, 3, 0, 0);
        due.is("count(0)", x.count(0), 1);
        due.is("take(6)", x.take(6), 1);
        due.box(x, 3, 1, 1);
        due.is("take(6)", x.take(6), 0);
    }

    private static void takesWhatComesMeanwhile() {
        MailRoom x = new MailRoom();
        x.post(1, 3);
        x.post(0, 10);
        due.is("take(2)", x.take(2), 2);
        due.box(x, 0, 10, 1);
        due.is("count(0)", x.count(0), 1);
        x.post(1, 2);
        due.is("take(6)", x.take(6), 3);
        due.box(x, 0, 13, 3);
    }

    private static void takesAsTheHandlersStandByThen() {
        MailRoom x = new MailRoom();
        x.handle(2, 0, 2, 0, 0);
        x.handle(2, 6, 3, 0, 0);
        x.post(2, 5);
        x.post(2, 6);
        x.post(4, 7);
        x.handle(4, 0, 4, 0, 0);
        due.is("take(6)", x.take(6), 3);
        due.box(x, 3, 5, 1);
        due.box(x, 2, 6, 1);
        due.box(x, 4, 7, 1);
    }

    private static void takesOnBehindFailures() {
        MailRoom x = new MailRoom();
        x.post(5, 1);
        x.post(0, 2);
        due.is("take(6)", x.take(6), 2);
        due.box(x, 0, 2, 1);
        due.is("count(0)", x.count(0), 0);
    }

    private static void aLetterTakenMakesRoom() {
        MailRoom x = new MailRoom();
        x.handle(2, 1, 0, 0, 0);
        for (int i = 0; i < 40; i++) {
            x.post(2, 1);
        }
        due.is("take(1)", x.take(1), 1);
        due.is("count(0)", x.count(0), 40);
        due.is("count(3)", x.count(3), 0);
    }

    private static void goesRoundAndRound() {
        MailRoom x = new MailRoom();
        long posted = 0;
        long taken = 0;
        for (int i = 0; i < 30; i++) {
            for (int j = 0; j < 6; j++) {
                x.post(0, 1L << (posted % 60));
                posted++;
            }
            due.is("take(5)", x.take(5), 5);
            taken += 5;
            due.is("count(0)", x.count(0), posted - taken);
        }
        long sum = 0;
        for (long n = 0; n < taken; n++) {
            sum += 1L << (n % 60);
        }
        due.box(x, 0, sum, 150);
    }

    private static void refuses() {
        MailRoom x = new MailRoom();
        x.post(0, 1);
        for (int n : new int[] {0, 7, -1, Integer.MIN_VALUE, Integer.MAX_VALUE}) {
            due.is("take(" + n + ")", x.take(n), MailRoom.OUTSIDE);
        }
        for (int k : new int[] {-1, 10, Integer.MIN_VALUE, Integer.MAX_VALUE}) {
            due.is("post(" + k + ", 1)", x.post(k, 1), MailRoom.UNKNOWN);
        }
        due.is("count(0)", x.count(0), 1);
        due.is("count(1)", x.count(1), 0);
    }
}
