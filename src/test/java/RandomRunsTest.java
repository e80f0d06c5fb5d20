import java.util.Random;

/** Runs of random calls, the same ones each time, on the class and on the model. */
public final class RandomRunsTest {
    private static final int RUNS = 400;
    private static final int CALLS = 480;
    private static final int[] STRANGE = {-1, Integer.MIN_VALUE, Integer.MAX_VALUE, 5, 7, 8, 31, 32, 61, 101, -101};

    private final Random random;
    private final BarRoutine real = new BarRoutine();
    private final Model model = new Model();

    private RandomRunsTest(long seed) {
        random = new Random(seed);
    }

    public static void main(String[] args) {
        for (int run = 0; run < RUNS; run++) {
            Check.part("random run " + run);
            new RandomRunsTest(run).go();
        }
        Check.close("RandomRunsTest");
    }

    private void go() {
        int left = CALLS;
        if (random.nextInt(8) != 0) {
            left -= write(text());
            due("gym()", real.gym(), model.gym());
        }
        while (left > 0) {
            if (random.nextInt(60) == 0) {
                left -= write(text());
            } else if (random.nextInt(4) == 0) {
                due("put", put(random.nextInt(7)));
                left--;
            } else {
                call(random.nextInt(24));
                left--;
            }
        }
        due("digest()", real.digest(), model.digest());
    }

    /** Mostly the text of a gym; else one letter of it is another, or lacks, or is one too many. */
    private String text() {
        StringBuilder text = new StringBuilder();
        int pieces = 1 + random.nextInt(8);
        for (int i = 0; i < pieces; i++) {
            text.append(i == 0 ? "" : ",").append("pfthrfr".charAt(random.nextInt(7)));
            text.append(1 + random.nextInt(9)).append(1 + random.nextInt(9));
        }
        int at = random.nextInt(text.length());
        switch (random.nextInt(12)) {
            case 0 -> text.setCharAt(at, "pfthrx019,;/:".charAt(random.nextInt(13)));
            case 1 -> text.deleteCharAt(at);
            case 2 -> text.insert(at, ",");
            default -> { }
        }
        return text.toString();
    }

    private int write(String text) {
        due("blank()", real.blank(), model.blank());
        for (int i = 0; i < text.length(); i++) {
            due("letter", real.letter(text.charAt(i)), model.letter(text.charAt(i)));
        }
        due("fault() of " + text, real.fault(), model.fault());
        return text.length() + 2;
    }

    private int number(int bound) {
        return random.nextInt(20) == 0 ? STRANGE[random.nextInt(STRANGE.length)] : random.nextInt(bound);
    }

    private int needed() {
        return random.nextInt(20) == 0 ? STRANGE[random.nextInt(STRANGE.length)] : random.nextInt(80) - 40;
    }

    private void due(String call, long got, long want) {
        Check.due(call, got, want);
    }

    private void due(String call, long[] answers) {
        Check.due(call, answers[0], answers[1]);
    }

    private long[] put(int piece) {
        return new long[] {real.put(piece), model.put(piece)};
    }

    private void call(int which) {
        int a = number(7);
        int b = number(7);
        int score = needed();
        boolean yes = random.nextBoolean();
        switch (which) {
            case 0 -> due("letter(" + a * 18 + ")", real.letter(a * 18), model.letter(a * 18));
            case 1 -> due("fault()", real.fault(), model.fault());
            case 2 -> due("gym()", real.gym(), model.gym());
            case 3, 4 -> due("piece(" + a + ", " + b + ")", real.piece(a, b), model.piece(a, b));
            case 5 -> due("as(" + a + ", " + b + ")", real.as(a, b), model.as(a, b));
            case 6 -> due("take(" + a + ")", real.take(a), model.take(a));
            case 7, 8 -> due("swap(" + a + ", " + b + ")", real.swap(a, b), model.swap(a, b));
            case 9 -> due("at(" + a + ")", real.at(a), model.at(a));
            case 10, 11 -> score(number(32));
            case 12 -> due("mean(" + b % 3 + ")", real.mean(b % 3), model.mean(b % 3));
            case 13, 14 -> due("odds(" + score + ", " + b % 3 + ")", real.odds(score, b % 3), model.odds(score, b % 3));
            case 15 -> best(1 + number(3), b % 3, 10 + number(3));
            case 16, 17 -> due("more(" + score + ")", real.more(score), model.more(score));
            case 18, 19 -> due("tryIt(" + a + ", " + b + ")", real.tryIt(a, b, yes), model.tryIt(a, b, yes));
            case 20 -> meets(1 + number(60), random.nextInt() & Integer.MAX_VALUE, number(3));
            case 21 -> keep(random.nextInt(4));
            case 22 -> due("count(" + a + ")", real.count(a + b), model.count(a + b));
            default -> due("digest()", real.digest(), model.digest());
        }
    }

    private void score(int falls) {
        int among = random.nextInt(3) == 0 ? falls : falls & (1 << model.count(1)) - 1;
        due("score(" + among + ")", real.score(among), model.score(among));
    }

    private void best(int many, int what, int piece) {
        int asked = random.nextBoolean() ? what : piece;
        due("best(" + many + ", " + asked + ")", real.best(many, asked), model.best(many, asked));
    }

    private void meets(int times, int seed, int what) {
        String call = "meets(" + times + ", " + seed + ", " + what + ")";
        due(call, real.meets(times, seed, what), model.meets(times, seed, what));
    }

    private void keep(int which) {
        switch (which) {
            case 0 -> due("forget()", real.forget(), model.forget());
            case 1 -> due("image()", real.image(), model.image());
            default -> due("restore()", real.restore(), model.restore());
        }
    }
}
