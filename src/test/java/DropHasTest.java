/** Promises 3 and 4: drop and has. */
public final class DropHasTest {
    private static final Due due = new Due();

    public static void main(String[] args) {
        dropsOne();
        dropsWhatIsToldAnew();
        refusesKinds();
        aLetterWaitsForItsHandler();
        due.end();
    }

    private static void dropsOne() {
        MailRoom x = new MailRoom();
        due.is("drop(0)", x.drop(0), 1);
        due.is("has(0)", x.has(0), 0);
        due.is("drop(0)", x.drop(0), 0);
        due.is("has(1)", x.has(1), 1);
        due.is("drop(9)", x.drop(9), 0);
        due.is("give(0, 1)", x.give(0, 1), -11);
    }

    private static void dropsWhatIsToldAnew() {
        MailRoom x = new MailRoom();
        x.handle(9, 0, 0, 0, 0);
        x.handle(9, 0, 1, 0, 0);
        due.is("has(9)", x.has(9), 1);
        due.is("drop(9), the former does not come back", x.drop(9), 1);
        due.is("has(9)", x.has(9), 0);
        due.is("count(2)", x.count(2), 2);
    }

    private static void refusesKinds() {
        MailRoom x = new MailRoom();
        for (int k : new int[] {-1, 10, Integer.MIN_VALUE, Integer.MAX_VALUE}) {
            due.is("drop(" + k + ")", x.drop(k), MailRoom.UNKNOWN);
            due.is("has(" + k + ")", x.has(k), MailRoom.UNKNOWN);
        }
    }

    private static void aLetterWaitsForItsHandler() {
        MailRoom x = new MailRoom();
        x.post(0, 6);
        x.drop(0);
        x.handle(0, 0, 4, 0, 0);
        x.take(1);
        due.box(x, 4, 6, 1);
        due.box(x, 0, 0, 0);
    }
}
