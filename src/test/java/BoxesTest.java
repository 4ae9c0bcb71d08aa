/** Promises 8 and 9: sum and counted. */
public final class BoxesTest {
    private static final Due due = new Due();

    public static void main(String[] args) {
        eachBoxHasItsOwn();
        sumsWrap();
        refusesBoxes();
        due.end();
    }

    private static void eachBoxHasItsOwn() {
        MailRoom x = new MailRoom();
        for (int box = 0; box < 6; box++) {
            x.handle(2, 0, box, 0, 0);
            for (int i = 0; i <= box; i++) {
                x.give(2, 10 + box);
            }
        }
        for (int box = 0; box < 6; box++) {
            due.box(x, box, (10 + box) * (box + 1), box + 1);
        }
    }

    private static void sumsWrap() {
        MailRoom x = new MailRoom();
        x.give(0, Long.MAX_VALUE);
        x.give(0, 1);
        due.box(x, 0, Long.MIN_VALUE, 2);
        x.give(0, -1);
        due.box(x, 0, Long.MAX_VALUE, 3);
    }

    private static void refusesBoxes() {
        MailRoom x = new MailRoom();
        x.give(0, 5);
        for (int box : new int[] {-1, 6, 9, Integer.MIN_VALUE, Integer.MAX_VALUE}) {
            due.is("sum(" + box + ")", x.sum(box), 0);
            due.is("counted(" + box + ")", x.counted(box), MailRoom.UNKNOWN);
        }
    }
}
