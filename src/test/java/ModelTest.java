import java.util.ArrayDeque;
import java.util.ArrayList;
import java.util.HashMap;
import java.util.List;
import java.util.Map;
import java.util.Random;

/**
 * Long runs of calls against a second telling of the document, written with the library and with exceptions,
 * so that a slip in the one is unlikely to stand in the other. The seed is fixed: each run is the same each time.
 */
public final class ModelTest {
    private static final int RUNS = 20000;
    /** The document promises nothing about an object behind its 512th call. */
    private static final int CALLS = 512;
    private static final int CALLS_OF_LOOK_ALL = 31;
    private static final int MOST_CALLS_OF_A_STEP = 3;
    private static final int WRONG_TOLD = 10;

    private static final class Failure extends Exception {
        private static final long serialVersionUID = 1L;
        final int number;

        Failure(int number) {
            super(null, null, false, false);
            this.number = number;
        }
    }

    private interface Deed {
        void with(long v) throws Failure;
    }

    private record Letter(int kind, long value, int failure) { }

    private static final class Model {
        final long[] sums = new long[6];
        final int[] counts = new int[6];
        final Map<Integer, Deed> deeds = new HashMap<>();
        final ArrayDeque<Letter> queue = new ArrayDeque<>();
        final List<Letter> failed = new ArrayList<>();
        int taken = 0;
        int told = 0;
        int within = 0;
        int forLetter = 0;
        int inCall = 0;

        Model() {
            deeds.put(0, v -> keep(0, v));
            deeds.put(1, v -> {
                keep(1, v);
                if (v > 1) {
                    send(0, v - 1);
                }
            });
        }

        void keep(int box, long v) {
            sums[box] += v;
            counts[box]++;
        }

        void send(int k, long v) throws Failure {
            if (queue.size() == 40) {
                throw new Failure(5);
            }
            queue.add(new Letter(k, v, 0));
        }

        void run(Deed deed, long v) throws Failure {
            if (within == 8 || forLetter == 16) {
                throw new Failure(6);
            }
            within++;
            forLetter++;
            inCall++;
            try {
                if (deed == null) {
                    throw new Failure(1);
                }
                deed.with(v);
            } finally {
                within--;
            }
        }

        long divisor(long c) throws Failure {
            if (c == 0) {
                throw new Failure(2);
            }
            return c;
        }

        Deed deed(int k, int sort, int a, int b, long c) {
            Deed former = deeds.get(k);
            Deed there = deeds.get(a);
            int[] times = {0};
            return switch (sort) {
                case 0 -> v -> keep(a, v);
                case 1 -> v -> send(a, v + c);
                case 2 -> v -> run(there, v + c);
                case 3 -> v -> run(deeds.get(a), v + c);
                case 4 -> v -> {
                    if (v % divisor(c) == a) {
                        run(former, v);
                    }
                };
                case 5 -> v -> {
                    if (++times[0] > b) {
                        throw new Failure(4);
                    }
                    run(former, v);
                };
                case 6 -> v -> {
                    keep(a, v);
                    deeds.put(k, former);
                };
                case 7 -> v -> {
                    run(former, v);
                    run(there, v);
                };
                case 8 -> v -> {
                    keep(a, v / divisor(c));
                    keep(b, v % c);
                };
                case 9 -> v -> {
                    int box = (int) v;
                    if (box < 0 || box > 5) {
                        throw new Failure(3);
                    }
                    keep(box, 1);
                };
                case 10 -> v -> {
                    try {
                        run(former, v);
                    } catch (Failure failure) {
                        if (failure.number == 6) {
                            throw failure;
                        }
                        keep(a, failure.number);
                    }
                };
                default -> v -> {
                    keep(a, v);
                    if (former != null) {
                        run(former, sums[a] / counts[a]);
                    }
                };
            };
        }

        static boolean in(long n, long low, long high) {
            return low <= n && n <= high;
        }

        int handle(int k, int sort, int a, int b, long c) {
            if (!in(sort, 0, 11)) {
                return -3;
            }
            boolean boxA = List.of(0, 6, 8, 10, 11).contains(sort);
            boolean kindA = List.of(1, 2, 3, 7).contains(sort);
            if (!in(k, 0, 9) || boxA && !in(a, 0, 5) || sort == 8 && !in(b, 0, 5) || kindA && !in(a, 0, 9)) {
                return -2;
            }
            if (sort == 5 && !in(b, 0, 100)) {
                return -3;
            }
            if (told == 200) {
                return -4;
            }
            told++;
            return deeds.put(k, deed(k, sort, a, b, c)) == null ? 0 : 1;
        }

        int deliver(int k, long v) {
            forLetter = 0;
            try {
                run(deeds.get(k), v);
                return 0;
            } catch (Failure failure) {
                return failure.number;
            }
        }

        int take(int n) {
            if (!in(n, 1, 6)) {
                return -3;
            }
            inCall = 0;
            int many = 0;
            for (; many < n && !queue.isEmpty(); many++) {
                Letter letter = queue.remove();
                taken++;
                int failure = deliver(letter.kind, letter.value);
                if (failure != 0) {
                    failed.add(new Letter(letter.kind, letter.value, failure));
                }
            }
            return many;
        }

        int give(int k, long v) {
            if (!in(k, 0, 9)) {
                return -2;
            }
            inCall = 0;
            int failure = deliver(k, v);
            return failure == 0 ? 1 : -10 - failure;
        }

        int post(int k, long v) {
            if (!in(k, 0, 9)) {
                return -2;
            }
            if (queue.size() == 40) {
                return -4;
            }
            queue.add(new Letter(k, v, 0));
            return queue.size();
        }

        Letter failedAt(int i) {
            return in(i, 0, Math.min(30, failed.size()) - 1) ? failed.get(i) : null;
        }

        int failed(int i, int what) {
            if (!in(what, 0, 1)) {
                return -3;
            }
            Letter letter = failedAt(i);
            return letter == null ? -1 : what == 0 ? letter.kind : letter.failure;
        }

        int count(int what) {
            int[] all = {queue.size(), taken, told, failed.size(), inCall};
            return in(what, 0, 4) ? all[what] : -3;
        }
    }

    private final Random random;
    private final MailRoom room = new MailRoom();
    private final Model model = new Model();
    private final int leaning;
    private final StringBuilder told = new StringBuilder();
    private int calls = 0;
    private boolean wrong = false;

    private ModelTest(int seed) {
        random = new Random(seed);
        leaning = random.nextInt(4);
    }

    private void same(String call, long got, long want) {
        calls++;
        told.append("  ").append(call).append(" = ").append(want).append('\n');
        if (got != want) {
            told.append("  but it answered ").append(got).append('\n');
            wrong = true;
        }
    }

    private static final int[] ODD = {-1, 10, 12, 6, 101, -2, Integer.MIN_VALUE, Integer.MAX_VALUE};
    private static final long[] ODD_LONG =
        {0, -1, Long.MIN_VALUE, Long.MAX_VALUE, 1L << 32, (1L << 32) + 3, 1L << 31, -(1L << 40)};

    private int number(int bound) {
        return random.nextInt(40) == 0 ? ODD[random.nextInt(ODD.length)] : random.nextInt(bound);
    }

    private long value() {
        return random.nextInt(8) == 0 ? ODD_LONG[random.nextInt(ODD_LONG.length)] : random.nextInt(21) - 6;
    }

    private void tell() {
        int k = number(10);
        int sort = number(12);
        int a = number(sort == 1 || sort == 2 || sort == 3 || sort == 7 ? 10 : sort == 4 ? 3 : 6);
        int b = number(sort == 5 ? 5 : 6);
        long c = random.nextInt(6) == 0 ? value() : random.nextInt(9) - 4;
        same("handle(" + k + ", " + sort + ", " + a + ", " + b + ", " + c + ")",
            room.handle(k, sort, a, b, c), model.handle(k, sort, a, b, c));
    }

    private void post() {
        int k = number(10);
        long v = value();
        same("post(" + k + ", " + v + ")", room.post(k, v), model.post(k, v));
    }

    private void give() {
        int k = number(10);
        long v = value();
        same("give(" + k + ", " + v + ")", room.give(k, v), model.give(k, v));
    }

    private void take() {
        int n = random.nextInt(20) == 0 ? number(8) : 1 + random.nextInt(6);
        same("take(" + n + ")", room.take(n), model.take(n));
    }

    private void ask() {
        int i = number(34);
        int what = number(5);
        Letter letter = model.failedAt(i);
        same("failed(" + i + ", " + what + ")", room.failed(i, what), model.failed(i, what));
        same("value(" + i + ")", room.value(i), letter == null ? 0 : letter.value);
        same("count(" + what + ")", room.count(what), model.count(what));
    }

    private void drop() {
        int k = number(10);
        boolean known = Model.in(k, 0, 9);
        same("has(" + k + ")", room.has(k), known ? (model.deeds.get(k) != null ? 1 : 0) : -2);
        int due = known ? (model.deeds.put(k, null) != null ? 1 : 0) : -2;
        same("drop(" + k + ")", room.drop(k), due);
    }

    private void lookAtBox(int box) {
        boolean known = Model.in(box, 0, 5);
        same("sum(" + box + ")", room.sum(box), known ? model.sums[box] : 0);
        same("counted(" + box + ")", room.counted(box), known ? model.counts[box] : -2);
    }

    private void lookAll() {
        for (int box = -1; box < 7; box++) {
            lookAtBox(box);
        }
        for (int k = 0; k < 10; k++) {
            same("has(" + k + ")", room.has(k), model.deeds.get(k) != null ? 1 : 0);
        }
        for (int what = 0; what < 5; what++) {
            same("count(" + what + ")", room.count(what), model.count(what));
        }
    }

    private void step() {
        int turn = random.nextInt(100);
        if (turn < 10 + 14 * leaning) {
            tell();
        } else if (turn < 70) {
            give();
        } else if (turn < 84) {
            post();
        } else if (turn < 92) {
            take();
        } else if (turn < 96) {
            ask();
        } else if (turn < 98) {
            lookAtBox(number(6));
        } else {
            drop();
        }
    }

    private boolean runIsRight() {
        while (calls + MOST_CALLS_OF_A_STEP + CALLS_OF_LOOK_ALL <= CALLS && !wrong) {
            step();
        }
        lookAll();
        return !wrong;
    }

    public static void main(String[] args) {
        int wrongRuns = 0;
        for (int seed = 0; seed < RUNS && wrongRuns < WRONG_TOLD; seed++) {
            ModelTest run = new ModelTest(seed);
            if (!run.runIsRight()) {
                wrongRuns++;
                System.out.println("seed " + seed + ":\n" + run.told);
            }
        }
        System.out.println(wrongRuns == 0 ? "all answers are as due" : wrongRuns + " runs are not as due");
        if (wrongRuns != 0) {
            System.exit(1);
        }
    }
}
