/** Promise 2: what handle answers and refuses; SortsTest has what the handlers do. */
public final class HandleTest {
    private static final Due due = new Due();
    private static final int MIN = Integer.MIN_VALUE;
    private static final int MAX = Integer.MAX_VALUE;

    public static void main(String[] args) {
        answersWhetherOneWasThere();
        refusesSortsAheadOfAll();
        refusesKinds();
        refusesBoxesAndKindsOfASort();
        refusesTimesOfALimit();
        looksAtNothingThatASortHasNot();
        refusesTheTwoHundredAndFirst();
        changesNothingWhenRefused();
        due.end();
    }

    private static void answersWhetherOneWasThere() {
        MailRoom x = new MailRoom();
        due.is("handle(0, 0, ..)", x.handle(0, 0, 0, 0, 0), 1);
        due.is("handle(9, 0, ..)", x.handle(9, 0, 5, 0, 0), 0);
        due.is("handle(9, 9, ..)", x.handle(9, 9, 0, 0, 0), 1);
        x.drop(9);
        due.is("handle(9, 9, ..), dropped", x.handle(9, 9, 0, 0, 0), 0);
        due.is("has(9)", x.has(9), 1);
        due.is("count(2)", x.count(2), 4);
    }

    private static void refusesSortsAheadOfAll() {
        MailRoom x = new MailRoom();
        for (int sort : new int[] {-1, 12, 13, MIN, MAX}) {
            due.is("handle(2, " + sort + ", ..)", x.handle(2, sort, 0, 0, 1), MailRoom.OUTSIDE);
            due.is("handle(10, " + sort + ", ..)", x.handle(10, sort, -1, -1, 1), MailRoom.OUTSIDE);
        }
    }

    private static void refusesKinds() {
        MailRoom x = new MailRoom();
        for (int k : new int[] {-1, 10, MIN, MAX}) {
            for (int sort = 0; sort < 12; sort++) {
                due.is("handle(" + k + ", " + sort + ", ..)", x.handle(k, sort, 0, 0, 1), MailRoom.UNKNOWN);
            }
            due.is("handle(" + k + ", 5, 0, 101, 0)", x.handle(k, 5, 0, 101, 0), MailRoom.UNKNOWN);
        }
    }

    private static void refusesBoxesAndKindsOfASort() {
        MailRoom x = new MailRoom();
        for (int sort : new int[] {0, 6, 8, 10, 11}) {
            for (int a : new int[] {-1, 6, 9, MIN, MAX}) {
                due.is("handle(2, " + sort + ", " + a + ", 0, 1)", x.handle(2, sort, a, 0, 1), MailRoom.UNKNOWN);
            }
            due.is("handle(2, " + sort + ", 5, 5, 1)", x.handle(2, sort, 5, 5, 1) >= 0 ? 1 : 0, 1);
        }
        for (int b : new int[] {-1, 6, MIN, MAX}) {
            due.is("handle(2, 8, 0, " + b + ", 1)", x.handle(2, 8, 0, b, 1), MailRoom.UNKNOWN);
        }
        for (int sort : new int[] {1, 2, 3, 7}) {
            for (int a : new int[] {-1, 10, MIN, MAX}) {
                due.is("handle(2, " + sort + ", " + a + ", 0, 1)", x.handle(2, sort, a, 0, 1), MailRoom.UNKNOWN);
            }
            due.is("handle(2, " + sort + ", 9, 0, 1)", x.handle(2, sort, 9, 0, 1), 1);
        }
    }

    private static void refusesTimesOfALimit() {
        MailRoom x = new MailRoom();
        for (int b : new int[] {-1, 101, MIN, MAX}) {
            due.is("handle(2, 5, 0, " + b + ", 0)", x.handle(2, 5, 0, b, 0), MailRoom.OUTSIDE);
        }
        due.is("handle(2, 5, 0, 0, 0)", x.handle(2, 5, 0, 0, 0), 0);
        due.is("handle(2, 5, 0, 100, 0)", x.handle(2, 5, 0, 100, 0), 1);
    }

    private static void looksAtNothingThatASortHasNot() {
        MailRoom x = new MailRoom();
        for (int sort : new int[] {4, 9}) {
            for (int n : new int[] {-1, 101, MIN, MAX}) {
                x.drop(2);
                due.is("handle(2, " + sort + ", " + n + ", ..)", x.handle(2, sort, n, n, 0), 0);
            }
        }
        due.is("handle(3, 5, -1, 1, 0)", x.handle(3, 5, -1, 1, 0), 0);
        for (int sort : new int[] {0, 1, 2, 3, 6, 7, 10, 11}) {
            x.drop(4);
            due.is("handle(4, " + sort + ", 0, -1, ..)", x.handle(4, sort, 0, -1, Long.MIN_VALUE), 0);
        }
    }

    private static void refusesTheTwoHundredAndFirst() {
        MailRoom x = new MailRoom();
        for (int i = 0; i < 200; i++) {
            due.is("handle number " + i, x.handle(2, 0, 2, 0, 0), i == 0 ? 0 : 1);
        }
        due.is("count(2)", x.count(2), 200);
        due.is("handle(2, 0, 3, 0, 0)", x.handle(2, 0, 3, 0, 0), MailRoom.FULL_UP);
        due.is("handle(2, 12, 3, 0, 0)", x.handle(2, 12, 3, 0, 0), MailRoom.OUTSIDE);
        due.is("handle(10, 0, 3, 0, 0)", x.handle(10, 0, 3, 0, 0), MailRoom.UNKNOWN);
        due.is("handle(2, 0, 6, 0, 0)", x.handle(2, 0, 6, 0, 0), MailRoom.UNKNOWN);
        due.is("handle(2, 5, 0, 101, 0)", x.handle(2, 5, 0, 101, 0), MailRoom.OUTSIDE);
        x.drop(2);
        due.is("handle(2, 0, 3, 0, 0), dropped", x.handle(2, 0, 3, 0, 0), MailRoom.FULL_UP);
        due.is("count(2)", x.count(2), 200);
    }

    private static void changesNothingWhenRefused() {
        MailRoom x = new MailRoom();
        x.handle(0, 12, 1, 0, 0);
        x.handle(0, 0, 6, 0, 0);
        x.handle(0, 5, 0, 101, 0);
        due.is("count(2)", x.count(2), 0);
        due.is("give(0, 4)", x.give(0, 4), 1);
        due.box(x, 0, 4, 1);
    }
}
