/** Promise 7: give, and how deep and how far a letter goes. */
public final class GiveTest {
    private static final Due due = new Due();

    public static void main(String[] args) {
        answersEachFailure();
        refusesKinds();
        isNotNotedAsTaken();
        goesEightDeep();
        goesEightDeepThroughEachSort();
        countsAMissingOneAsDeep();
        goesToSixteen();
        countsAMissingOneAmongSixteen();
        keepsWhatWasDoneAheadOfAFailure();
        due.end();
    }

    private static void answersEachFailure() {
        MailRoom x = new MailRoom();
        due.is("give(0, 1)", x.give(0, 1), 1);
        due.is("give(9, 1), MISSING", x.give(9, 1), -11);
        x.handle(2, 8, 0, 0, 0);
        due.is("give(2, 1), ZERO", x.give(2, 1), -12);
        x.handle(2, 9, 0, 0, 0);
        due.is("give(2, 6), INDEX", x.give(2, 6), -13);
        x.handle(2, 5, 0, 0, 0);
        due.is("give(2, 1), OVER", x.give(2, 1), -14);
        x.handle(2, 1, 2, 0, 0);
        for (int i = 0; i < 40; i++) {
            x.post(0, 0);
        }
        due.is("give(2, 1), FULL", x.give(2, 1), -15);
        x.handle(2, 3, 2, 0, 0);
        due.is("give(2, 1), DEEP", x.give(2, 1), -16);
    }

    private static void refusesKinds() {
        MailRoom x = new MailRoom();
        x.give(0, 1);
        for (int k : new int[] {-1, 10, Integer.MIN_VALUE, Integer.MAX_VALUE}) {
            due.is("give(" + k + ", 1)", x.give(k, 1), MailRoom.UNKNOWN);
            due.is("count(4), as it was", x.count(4), 1);
        }
    }

    private static void isNotNotedAsTaken() {
        MailRoom x = new MailRoom();
        x.post(0, 3);
        x.give(9, 1);
        x.give(0, 2);
        due.box(x, 0, 2, 1);
        due.is("count(0)", x.count(0), 1);
        due.is("count(1)", x.count(1), 0);
        due.is("count(3)", x.count(3), 0);
        due.is("failed(0, 0)", x.failed(0, 0), MailRoom.NONE);
    }

    /** Handlers for kind 2, each like the one ahead of it: so many in all, the innermost keeps. */
    private static MailRoom chain(int many) {
        MailRoom x = new MailRoom();
        x.handle(2, 0, 2, 0, 0);
        for (int i = 1; i < many; i++) {
            x.handle(2, 2, 2, 0, 1);
        }
        return x;
    }

    private static void goesEightDeep() {
        MailRoom x = chain(8);
        due.is("give(2, 1), eight", x.give(2, 1), 1);
        due.is("count(4)", x.count(4), 8);
        due.box(x, 2, 8, 1);
        x = chain(9);
        due.is("give(2, 1), nine", x.give(2, 1), -16);
        due.is("count(4)", x.count(4), 8);
        due.box(x, 2, 0, 0);
    }

    /** Each of these sorts hands on to its former, one deeper; its own box, where it has one, is 5. */
    private static void goesEightDeepThroughEachSort() {
        for (int sort : new int[] {2, 4, 5, 7, 10, 11}) {
            int a = sort == 2 ? 2 : sort == 4 || sort == 7 ? 0 : 5;
            MailRoom x = chain(7);
            x.handle(2, sort, a, 1, 1);
            due.is("give(2, 1), the eighth below sort " + sort, x.give(2, 1), 1);
            due.is("counted(2)", x.counted(2), 1);
            x = chain(8);
            x.handle(2, sort, a, 1, 1);
            due.is("give(2, 1), the ninth below sort " + sort, x.give(2, 1), -16);
            due.is("counted(2)", x.counted(2), 0);
            due.is("count(4)", x.count(4), 8);
        }
        for (int many = 7; many < 9; many++) {
            MailRoom x = chain(many);
            x.handle(0, 7, 2, 0, 0);
            x.handle(3, 3, 2, 0, 0);
            due.is("give(0, 1), BOTH with a chain of " + many, x.give(0, 1), many == 7 ? 1 : -16);
            due.is("count(4)", x.count(4), 9);
            due.is("give(3, 1), NOW with a chain of " + many, x.give(3, 1), many == 7 ? 1 : -16);
            due.is("count(4)", x.count(4), 8);
        }
    }

    private static void countsAMissingOneAsDeep() {
        MailRoom x = new MailRoom();
        for (int i = 0; i < 7; i++) {
            x.handle(2, 2, 2, 0, 0);
        }
        due.is("give(2, 1), the eighth is missing", x.give(2, 1), -11);
        due.is("count(4)", x.count(4), 8);
        x.handle(2, 2, 2, 0, 0);
        due.is("give(2, 1), the ninth would be missing", x.give(2, 1), -16);
        due.is("count(4)", x.count(4), 8);
    }

    /** Kind 4 begins 15 handlers, of which 8 keep. */
    private static MailRoom tree() {
        MailRoom x = new MailRoom();
        x.handle(4, 0, 2, 0, 0);
        x.handle(4, 7, 4, 0, 0);
        x.handle(4, 7, 4, 0, 0);
        x.handle(4, 7, 4, 0, 0);
        return x;
    }

    private static void goesToSixteen() {
        MailRoom x = tree();
        due.is("give(4, 1), fifteen", x.give(4, 1), 1);
        due.is("count(4)", x.count(4), 15);
        due.box(x, 2, 8, 8);
        x.handle(4, 10, 5, 0, 0);
        due.is("give(4, 1), sixteen", x.give(4, 1), 1);
        due.is("count(4)", x.count(4), 16);
        x.handle(4, 10, 5, 0, 0);
        due.is("give(4, 1), seventeen", x.give(4, 1), -16);
        due.is("count(4)", x.count(4), 16);
        due.box(x, 2, 23, 23);
        due.box(x, 5, 0, 0);
        due.is("give(4, 1), each is counted anew", x.give(4, 1), -16);
        due.box(x, 2, 30, 30);
    }

    private static void countsAMissingOneAmongSixteen() {
        MailRoom x = tree();
        x.handle(4, 7, 9, 0, 0);
        due.is("give(4, 1), the seventeenth would be missing", x.give(4, 1), -16);
        due.is("count(4)", x.count(4), 16);
        x = new MailRoom();
        x.handle(2, 10, 5, 0, 0);
        for (int i = 0; i < 3; i++) {
            x.handle(2, 7, 2, 0, 0);
        }
        due.is("give(2, 1), caught misses among sixteen", x.give(2, 1), -16);
        due.is("count(4)", x.count(4), 16);
        due.box(x, 5, 5, 5);
    }

    private static void keepsWhatWasDoneAheadOfAFailure() {
        MailRoom x = new MailRoom();
        x.handle(0, 7, 9, 0, 0);
        due.is("give(0, 4)", x.give(0, 4), -11);
        due.box(x, 0, 4, 1);
        x.handle(2, 6, 3, 0, 0);
        x.handle(2, 7, 9, 0, 0);
        due.is("give(2, 4)", x.give(2, 4), -11);
        due.box(x, 3, 4, 1);
        due.is("has(2), given back ahead of the failure", x.has(2), 0);
    }
}
