/** Counts and prints the answers that are not the ones due; each test ends with end(). */
final class Due {
    private int wrong = 0;

    void is(String call, long got, long want) {
        if (got != want) {
            wrong++;
            System.out.println(call + " answered " + got + ", due is " + want);
        }
    }

    /** What a box holds: its sum and its count. */
    void box(MailRoom x, int box, long sum, int count) {
        is("sum(" + box + ")", x.sum(box), sum);
        is("counted(" + box + ")", x.counted(box), count);
    }

    void end() {
        System.out.println(wrong == 0 ? "all answers are as due" : wrong + " answers are not as due");
        if (wrong != 0) {
            System.exit(1);
        }
    }
}
