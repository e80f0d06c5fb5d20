/** For each promise ordinary answers, edges and refusals, worked out by hand from the document. */
public final class PromisesTest {
    private static final int NONE = -1;
    private static final int UNKNOWN = -101;
    private static final int OUTSIDE = -102;
    private static final int STATE = -103;
    private static final int FULL = -104;
    private static final int LEAST = Integer.MIN_VALUE;
    private static final int MOST = Integer.MAX_VALUE;

    /** 0 a flight, 1 a turn, 2 a release, 3 a hold, 4 a plain piece. */
    private static final String FIVE = "f38,t27,r54,h46,p91";
    private static final String SEVEN = "p11,p12,p13,p14,p15,p16,p17";

    private PromisesTest() {
    }

    public static void main(String[] args) {
        newObject();
        letter();
        blank();
        fault();
        gym();
        piece();
        as();
        put();
        take();
        swap();
        at();
        score();
        mean();
        odds();
        best();
        more();
        tryIt();
        forget();
        meets();
        image();
        restore();
        count();
        digest();
        refusalsInOrder();
        refusalsChangeNothing();
        Check.close("PromisesTest");
    }

    private static void due(String call, long got, long want) {
        Check.due(call, got, want);
    }

    private static void newObject() {
        Check.part("promise 1, a new object");
        BarRoutine x = new BarRoutine();
        for (int what = 0; what <= 9; what++) {
            due("count(" + what + ")", x.count(what), 0);
        }
        due("fault()", x.fault(), 0);
        due("blank()", x.blank(), 0);
        due("gym()", x.gym(), STATE);
        due("piece(0, 0)", x.piece(0, 0), UNKNOWN);
        due("at(0)", x.at(0), UNKNOWN);
        due("score(0)", x.score(0), STATE);
        due("mean(0)", x.mean(0), STATE);
        due("odds(0, 0)", x.odds(0, 0), STATE);
        due("best(1, 0)", x.best(1, 0), STATE);
        due("more(0)", x.more(0), STATE);
        due("meets(1, 1, 0)", x.meets(1, 1, 0), STATE);
        due("image()", x.image(), STATE);
        due("restore()", x.restore(), STATE);
        due("forget()", x.forget(), 0);
        due("count(9)", x.count(9), 0);
        long h = 1033;
        for (int i = 0; i < 10; i++) {
            h *= 31;
        }
        due("digest()", x.digest(), h);
        due("NONE", BarRoutine.NONE, -1);
        due("UNKNOWN", BarRoutine.UNKNOWN, -101);
        due("OUTSIDE", BarRoutine.OUTSIDE, -102);
        due("STATE", BarRoutine.STATE, -103);
        due("FULL", BarRoutine.FULL, -104);
    }

    private static void letter() {
        Check.part("promise 2, letter");
        BarRoutine x = new BarRoutine();
        due("letter(1)", x.letter(1), 1);
        due("letter(126)", x.letter(126), 2);
        due("letter(0)", x.letter(0), OUTSIDE);
        due("letter(127)", x.letter(127), OUTSIDE);
        due("letter(least)", x.letter(LEAST), OUTSIDE);
        due("letter(most)", x.letter(MOST), OUTSIDE);
        for (int i = 3; i <= 30; i++) {
            due("letter(65)", x.letter(65), i);
        }
        due("letter 31", x.letter(65), FULL);
        due("letter(0), the page full", x.letter(0), OUTSIDE);
        due("letter(127), the page full", x.letter(127), OUTSIDE);
        due("count(7)", x.count(7), 30);
    }

    private static void blank() {
        Check.part("promise 3, blank");
        BarRoutine x = Check.withPage("p5");
        due("blank()", x.blank(), 2);
        due("blank() again", x.blank(), 0);
        due("letter(112)", x.letter(112), 1);
        for (int i = 0; i < 40; i++) {
            x.letter(65);
        }
        due("blank(), the page full", x.blank(), 30);
        due("count(7)", x.count(7), 0);
        Check.write(x, FIVE);
        due("gym()", x.gym(), 5);
        Check.write(x, "x");
        due("blank() with a gym", x.blank(), 1);
        due("count(0)", x.count(0), 5);
    }

    private static void fault() {
        Check.part("promise 4, fault");
        fault("", 0);
        fault("p", 1);
        fault("p55", 3);
        fault("p55,", 4);
        fault("p55,t19", 7);
        fault("x", 0);
        fault("P55", 0);
        fault("5", 0);
        fault("p05", 1);
        fault("p50", 2);
        fault("pp5", 1);
        fault("p5:", 2);
        fault("p5/", 2);
        fault("p555", 3);
        fault("p55;f55", 3);
        fault("p55,,", 4);
        fault(",", 0);
        fault("p55, f55", 4);
        fault("p55,f5555", 7);
        fault("g55", 0);
        fault("q55", 0);
        fault("p99,f99,t99,h99,r99,p11,f11", 27);
        fault("p99,f99,t99,h99,r99,p11,f11,", 27);
        fault("p99,f99,t99,h99,r99,p11,f11,p", 27);
        fault("p99,f99,t99,h99,r99,p11,f11,p1", 27);
        fault("p99,f99,t99,h99,r99,p11,f1,", 26);
        BarRoutine x = Check.withGym(FIVE);
        due("fault() behind gym()", x.fault(), 0);
    }

    private static void fault(String text, int want) {
        due("fault() of \"" + text + "\"", Check.withPage(text).fault(), want);
    }

    private static void gym() {
        Check.part("promise 5, gym");
        String[] none = {"", "p", "p55", "p55,", "p55,f", "p55,f5", "p55,f55,", "p55,f05", "p55.f55",
            SEVEN + ",", SEVEN + ",p1", "x55,f55", "p55,f555"};
        for (String text : none) {
            BarRoutine x = Check.withPage(text);
            due("gym() of \"" + text + "\"", x.gym(), STATE);
            due("count(7) of it", x.count(7), text.length());
            due("count(8) of it", x.count(8), 0);
        }
        due("gym() of two", Check.withPage("p55,f55").gym(), 2);
        due("gym() of seven", Check.withPage(SEVEN).gym(), 7);
        BarRoutine x = Check.withGym(FIVE, 4, 2);
        due("count(7)", x.count(7), 0);
        x.tryIt(2, 4, true);
        x.image();
        x.best(1, 0);
        due("gym() of no page", x.gym(), STATE);
        due("restore() with no other gym", x.restore(), 2);
        Check.write(x, "h19,r91,t55");
        due("gym() again", x.gym(), 3);
        due("count(0)", x.count(0), 3);
        due("count(1)", x.count(1), 0);
        due("count(5)", x.count(5), 0);
        due("count(6)", x.count(6), 0);
        due("count(7)", x.count(7), 0);
        due("count(8)", x.count(8), 2);
        due("count(9)", x.count(9), 1);
        due("piece(2, 5)", x.piece(2, 5), 511);
        due("piece(3, 0)", x.piece(3, 0), UNKNOWN);
        due("restore()", x.restore(), STATE);
        due("put(0)", x.put(0), 0);
    }

    private static void piece() {
        Check.part("promise 6, piece");
        BarRoutine x = Check.withGym(FIVE, 4, 3);
        int[][] told = {{1, 3, 8}, {2, 2, 7}, {4, 5, 4}, {3, 4, 6}, {0, 9, 1}};
        for (int piece = 0; piece < 5; piece++) {
            for (int what = 0; what < 3; what++) {
                due("piece(" + piece + ", " + what + ")", x.piece(piece, what), told[piece][what]);
            }
        }
        due("piece(4, 3)", x.piece(4, 3), 0);
        due("piece(3, 3)", x.piece(3, 3), 1);
        due("piece(0, 3)", x.piece(0, 3), NONE);
        due("piece(0, 4)", x.piece(0, 4), NONE);
        due("piece(4, 4)", x.piece(4, 4), 1);
        x.put(0);
        due("piece(0, 4) at place 2", x.piece(0, 4), 8);
        x.put(1);
        due("piece(1, 4) at place 3", x.piece(1, 4), 6);
        x.put(2);
        due("piece(2, 4) at place 4", x.piece(2, 4), 2);
        due("piece(2, 2) as ever", x.piece(2, 2), 4);
        x.swap(0, 4);
        due("piece(4, 4) at place 4, not below 0", x.piece(4, 4), 0);
        x.swap(1, 4);
        due("piece(3, 4), a hold, at place 4", x.piece(3, 4), 6);
        due("piece(4, 4) at place 1", x.piece(4, 4), 1);
        x.swap(1, 3);
        due("piece(4, 4) at place 3", x.piece(4, 4), 0);
        due("piece(0, 5)", x.piece(0, 5), 511);
        due("piece(0, 6)", x.piece(0, 6), 1);
        due("piece(0, 7)", x.piece(0, 7), OUTSIDE);
        due("piece(0, -1)", x.piece(0, -1), OUTSIDE);
        due("piece(5, 0)", x.piece(5, 0), UNKNOWN);
        due("piece(-1, 0)", x.piece(-1, 0), UNKNOWN);
        due("piece(most, least)", x.piece(MOST, LEAST), UNKNOWN);
    }

    private static void as() {
        Check.part("promise 7, as");
        BarRoutine x = Check.withGym(FIVE);
        int[][] kinds = {{0, 1}, {0, 2}, {0, 1, 4}, {0, 3}, {0}};
        for (int piece = 0; piece < 5; piece++) {
            for (int kind = 0; kind < 5; kind++) {
                boolean is = false;
                for (int one : kinds[piece]) {
                    is |= one == kind;
                }
                due("as(" + piece + ", " + kind + ")", x.as(piece, kind), is ? piece : NONE);
            }
        }
        due("as(0, 5)", x.as(0, 5), OUTSIDE);
        due("as(0, -1)", x.as(0, -1), OUTSIDE);
        due("as(5, 0)", x.as(5, 0), UNKNOWN);
        due("as(-1, 9)", x.as(-1, 9), UNKNOWN);
    }

    private static void put() {
        Check.part("promise 8, put");
        BarRoutine x = Check.withGym(SEVEN);
        int[] pieces = {6, 2, 0, 3, 5};
        for (int place = 0; place < 5; place++) {
            due("put(" + pieces[place] + ")", x.put(pieces[place]), place);
        }
        due("put(1), full", x.put(1), FULL);
        due("put(6), full, but it is in it", x.put(6), STATE);
        due("put(7)", x.put(7), UNKNOWN);
        due("put(-1)", x.put(-1), UNKNOWN);
        due("count(5)", x.count(5), 5);
        x.take(0);
        due("put(6) again", x.put(6), 4);
        due("put(0), in it", x.put(0), STATE);
        due("put(0) with no gym", new BarRoutine().put(0), UNKNOWN);
    }

    private static void take() {
        Check.part("promise 9, take");
        BarRoutine x = Check.withGym(SEVEN, 6, 2, 0, 3, 5);
        due("take(5)", x.take(5), UNKNOWN);
        due("take(-1)", x.take(-1), UNKNOWN);
        due("take(1)", x.take(1), 2);
        due("at(0)", x.at(0), 6);
        due("at(1)", x.at(1), 0);
        due("at(2)", x.at(2), 3);
        due("at(3)", x.at(3), 5);
        due("at(4)", x.at(4), UNKNOWN);
        due("take(3), the last", x.take(3), 5);
        due("take(3)", x.take(3), UNKNOWN);
        due("take(0), the first", x.take(0), 6);
        due("count(1)", x.count(1), 2);
        due("count(5)", x.count(5), 8);
        due("piece(2, 3)", x.piece(2, 3), NONE);
    }

    private static void swap() {
        Check.part("promise 10, swap");
        BarRoutine x = Check.withGym(SEVEN, 6, 2, 0);
        due("swap(0, 2)", x.swap(0, 2), 4);
        due("at(0)", x.at(0), 0);
        due("at(1)", x.at(1), 2);
        due("at(2)", x.at(2), 6);
        due("swap(1, 1)", x.swap(1, 1), 5);
        due("at(1)", x.at(1), 2);
        due("swap(3, 0)", x.swap(3, 0), UNKNOWN);
        due("swap(0, 3)", x.swap(0, 3), UNKNOWN);
        due("swap(-1, 0)", x.swap(-1, 0), UNKNOWN);
        due("swap(0, -1)", x.swap(0, -1), UNKNOWN);
        due("count(5)", x.count(5), 5);
    }

    private static void at() {
        Check.part("promise 11, at");
        BarRoutine x = Check.withGym(SEVEN, 6, 2);
        due("at(0)", x.at(0), 6);
        due("at(1)", x.at(1), 2);
        due("at(2)", x.at(2), UNKNOWN);
        due("at(-1)", x.at(-1), UNKNOWN);
        due("at(most)", x.at(MOST), UNKNOWN);
        due("at(least)", x.at(LEAST), UNKNOWN);
    }

    private static void score() {
        Check.part("promise 12, score");
        due("no piece: neither flight nor turn", Check.withGym(FIVE).score(0), 190);
        score("no flight", new int[] {1}, 0, 2 - 5);
        score("no turn", new int[] {0}, 0, 3 - 5);
        score("a release is a flight", new int[] {2}, 0, 5 - 5);
        score("neither", new int[] {3, 4}, 0, 4 + 9 - 10);
        score("flight, turn", new int[] {0, 1}, 0, 3 + 2 + 2);
        score("turn, flight", new int[] {1, 0}, 0, 2 + 3);
        score("flight falls", new int[] {0, 1}, 1, -10 + 2);
        score("turn falls", new int[] {0, 1}, 2, 3 - 10);
        score("both fall, but they are in it", new int[] {0, 1}, 3, -20);
        score("release, flight", new int[] {2, 0}, 0, 5 + 3 + 3 - 5);
        score("flight, release", new int[] {0, 2}, 0, 3 + 5 + 2 - 5);
        score("release, turn", new int[] {2, 1}, 0, 5 + 2 + 3);
        score("turn, release", new int[] {1, 2}, 0, 2 + 5);
        score("two joins", new int[] {2, 0, 1}, 0, 5 + 3 + 2 + 3 + 2);
        score("first falls", new int[] {2, 0, 1}, 1, -10 + 3 + 2 + 2);
        score("middle falls", new int[] {2, 0, 1}, 2, 5 - 10 + 2);
        score("last falls", new int[] {2, 0, 1}, 4, 5 + 3 + 3 - 10);
        score("a hold between", new int[] {0, 3, 1}, 0, 3 + 4 + 2);
        score("flight, hold and flight, piece", new int[] {2, 3, 0, 4}, 0, 5 + 4 + 3 + 9 - 5);
        score("all", new int[] {0, 1, 2, 3, 4}, 0, 23 + 2);
        score("all, none falls but the last", new int[] {0, 1, 2, 3, 4}, 16, 14 + 2 - 10);
        score("all fall", new int[] {0, 1, 2, 3, 4}, 31, -50);
        BarRoutine x = Check.withGym(FIVE, 0, 1);
        due("score(4)", x.score(4), OUTSIDE);
        due("score(-1)", x.score(-1), OUTSIDE);
        due("score(least)", x.score(LEAST), OUTSIDE);
        due("score(1), no piece", Check.withGym(FIVE).score(1), OUTSIDE);
        due("score(32), five", Check.withGym(FIVE, 0, 1, 2, 3, 4).score(32), OUTSIDE);
        due("score(1), no gym", new BarRoutine().score(1), OUTSIDE);
        due("score(0), no gym", new BarRoutine().score(0), STATE);
    }

    private static void score(String name, int[] pieces, int falls, int want) {
        due(name + ": score(" + falls + ")", Check.withGym(FIVE, pieces).score(falls), want + 200);
    }

    private static void mean() {
        Check.part("promise 13, mean");
        // .56 * 7 + .14 * -8 + .24 * -7 + .06 * -20 = -.08
        mean(new int[] {0, 1}, 4998, 25);
        mean(new int[] {}, 190, 1);
        // .8 * 3 - .2 * 10 - 5 = -4.6
        mean(new int[] {0}, 977, 5);
        // -4 + .4 - 1.6, joins .4 * .8 * 3 and .8 * .7 * 2: -3.12
        mean(new int[] {2, 0, 1}, 4922, 25);
        // 4 places: 2: 2 - 6, 3: 2.4 - 4, 4: .9 - 9 and tired 0: 3 * .7 - 3; no join, no turn
        mean(new int[] {2, 3, 4, 0}, 902, 5);
        BarRoutine x = Check.withGym(FIVE, 0);
        due("mean(2)", x.mean(2), OUTSIDE);
        due("mean(-1)", x.mean(-1), OUTSIDE);
        due("mean(2), no gym", new BarRoutine().mean(2), OUTSIDE);
        due("mean(1), no gym", new BarRoutine().mean(1), STATE);
    }

    private static void mean(int[] pieces, int above, int below) {
        BarRoutine x = Check.withGym(FIVE, pieces);
        due("mean(0) of " + pieces.length, x.mean(0), above);
        due("mean(1) of " + pieces.length, x.mean(1), below);
    }

    private static void odds() {
        Check.part("promise 14, odds");
        BarRoutine x = Check.withGym(FIVE, 0, 1);
        odds(x, 8, 0, 1);
        odds(x, 7, 14, 25);
        odds(x, -6, 14, 25);
        odds(x, -7, 4, 5);
        odds(x, -8, 47, 50);
        odds(x, -19, 47, 50);
        odds(x, -20, 1, 1);
        odds(x, -100, 1, 1);
        odds(x, 100, 0, 1);
        odds(Check.withGym(FIVE), -10, 1, 1);
        odds(Check.withGym(FIVE), -9, 0, 1);
        // The last one never succeeds, and the others but seldom: .8 * .7 * .4 * .6 = .1344
        odds(Check.withGym(FIVE, 0, 1, 2, 3, 4), 6, 84, 625);
        odds(Check.withGym(FIVE, 0, 1, 2, 3, 4), 7, 0, 1);
        due("odds(101, 0)", x.odds(101, 0), OUTSIDE);
        due("odds(-101, 0)", x.odds(-101, 0), OUTSIDE);
        due("odds(0, 2)", x.odds(0, 2), OUTSIDE);
        due("odds(0, -1)", x.odds(0, -1), OUTSIDE);
        due("odds(101, 0), no gym", new BarRoutine().odds(101, 0), OUTSIDE);
        due("odds(0, 2), no gym", new BarRoutine().odds(0, 2), OUTSIDE);
        due("odds(0, 1), no gym", new BarRoutine().odds(0, 1), STATE);
    }

    private static void odds(BarRoutine x, int score, int above, int below) {
        due("odds(" + score + ", 0)", x.odds(score, 0), above);
        due("odds(" + score + ", 1)", x.odds(score, 1), below);
    }

    private static void best() {
        Check.part("promise 15, best");
        BarRoutine x = Check.withGym(FIVE, 4, 2);
        best(x, 1, 977, 5, 0, NONE, NONE);
        best(x, 2, 4998, 25, 0, 1, NONE);
        // The hold loses 1.6 ahead of the join or behind it: behind it comes first by numbers.
        best(x, 3, 4958, 25, 0, 1, 3);
        due("at(0), the routine as it was", x.at(0), 4);
        due("at(1), the routine as it was", x.at(1), 2);
        due("count(1)", x.count(1), 2);
        due("count(5)", x.count(5), 2);
        due("count(9)", x.count(9), 15);
        int[] wrong = {-1, 2, 9, 13, LEAST, MOST};
        for (int what : wrong) {
            due("best(1, " + what + ")", x.best(1, what), OUTSIDE);
        }
        due("best(0, 0)", x.best(0, 0), OUTSIDE);
        due("best(4, 0)", x.best(4, 0), OUTSIDE);
        due("count(9), refusals apart", x.count(9), 15);
        for (int i = 16; i <= 30; i++) {
            due("best(1, 0), " + i, x.best(1, 0), 977);
        }
        due("best(1, 0), 31", x.best(1, 0), STATE);
        due("best(1, 2), 31", x.best(1, 2), OUTSIDE);
        Check.write(x, FIVE);
        x.gym();
        due("best(1, 0), 31, of another gym", x.best(1, 0), STATE);
        due("count(9)", x.count(9), 30);
        BarRoutine two = Check.withGym("p55,p55");
        best(two, 3, NONE, NONE, NONE, NONE, NONE);
        due("count(9), none too", two.count(9), 5);
        best(two, 1, 375, 2, 0, NONE, NONE);
        best(two, 2, 185, 1, 0, 1, NONE);
        // Of like ones the first by numbers: flights joined either way.
        best(Check.withGym("p99,f99,f99"), 2, 10541, 50, 1, 2, NONE);
        due("best(1, 0), no gym", new BarRoutine().best(1, 0), STATE);
        due("best(0, 0), no gym", new BarRoutine().best(0, 0), OUTSIDE);
        due("best(1, 5), no gym", new BarRoutine().best(1, 5), OUTSIDE);
    }

    private static void best(BarRoutine x, int many, int above, int below, int first, int second, int third) {
        due("best(" + many + ", 0)", x.best(many, 0), above);
        due("best(" + many + ", 1)", x.best(many, 1), below);
        due("best(" + many + ", 10)", x.best(many, 10), first);
        due("best(" + many + ", 11)", x.best(many, 11), second);
        due("best(" + many + ", 12)", x.best(many, 12), third);
    }

    private static void more() {
        Check.part("promise 16, more");
        BarRoutine x = Check.withGym(FIVE, 1);
        due("more(5): the flight, .56", x.more(5), 0);
        due("more(6): the release, .28", x.more(6), 2);
        due("more(7)", x.more(7), 2);
        due("more(8): none can", x.more(8), NONE);
        due("more(-100): nothing is surer", x.more(-100), NONE);
        due("more(-3): .7 now, and with the flight .56", x.more(-3), NONE);
        due("count(1)", x.count(1), 1);
        due("count(5)", x.count(5), 1);
        BarRoutine y = Check.withGym("t55,f36,f36");
        due("more(-4): none yet", y.more(-4), 1);
        y.put(0);
        due("more(8): of like ones the least", y.more(8), 1);
        y.put(1);
        y.put(2);
        due("more(0): all are in it", y.more(0), NONE);
        BarRoutine z = Check.withGym(SEVEN, 6, 5, 4, 3);
        due("more(101)", z.more(101), OUTSIDE);
        due("more(-101)", z.more(-101), OUTSIDE);
        due("more(100)", z.more(100), NONE);
        z.put(0);
        due("more(0), five", z.more(0), STATE);
        due("more(101), five", z.more(101), OUTSIDE);
        due("more(0), no gym", new BarRoutine().more(0), STATE);
        due("more(101), no gym", new BarRoutine().more(101), OUTSIDE);
        BarRoutine w = Check.withGym("t91,p99,f99", 0);
        due("more(13): both as likely", w.more(13), 1);
        due("more(14): with no flight 5 are lacking", w.more(14), 2);
        due("more(-1): the flight alone, if the turn falls", w.more(-1), 2);
        due("more(-6): both as likely", w.more(-6), 1);
    }

    private static void tryIt() {
        Check.part("promise 17, tryIt");
        BarRoutine x = Check.withGym(FIVE);
        due("tryIt(0, 3, true)", x.tryIt(0, 3, true), 1);
        due("piece(0, 5): not 1, or it had none at place 3", x.piece(0, 5), 510);
        due("piece(0, 6)", x.piece(0, 6), 9);
        due("tryIt(0, 0, false)", x.tryIt(0, 0, false), 2);
        due("piece(0, 6): 4 * 5 and 5 * 4 alike", x.piece(0, 6), 5);
        due("tryIt(0, 4, true)", x.tryIt(0, 4, true), 3);
        due("piece(0, 5): nor 2", x.piece(0, 5), 508);
        due("tryIt(3, 4, true)", x.tryIt(3, 4, true), 4);
        due("piece(3, 5): a hold is never less", x.piece(3, 5), 511);
        due("piece(3, 6)", x.piece(3, 6), 9);
        due("tryIt(2, 0, false)", x.tryIt(2, 0, false), 5);
        due("piece(2, 5): each may fall", x.piece(2, 5), 511);
        due("piece(2, 6)", x.piece(2, 6), 1);
        due("piece(1, 5): nothing is tried", x.piece(1, 5), 511);
        due("piece(1, 6): nothing is tried", x.piece(1, 6), 1);
        due("tryIt(4, 4, false)", x.tryIt(4, 4, false), 6);
        due("piece(4, 6): 1 and 2 alike", x.piece(4, 6), 1);
        due("tryIt(4, 2, true)", x.tryIt(4, 2, true), 7);
        due("piece(4, 6): s * (12 - s)", x.piece(4, 6), 6);
        due("tryIt(0, 5, true)", x.tryIt(0, 5, true), OUTSIDE);
        due("tryIt(0, -1, true)", x.tryIt(0, -1, true), OUTSIDE);
        due("tryIt(5, 0, true)", x.tryIt(5, 0, true), UNKNOWN);
        due("tryIt(-1, 5, true)", x.tryIt(-1, 5, true), UNKNOWN);
        due("tryIt(1, 1, true)", x.tryIt(1, 1, true), 8);
        due("tryIt(1, 1, true), nine", x.tryIt(1, 1, true), FULL);
        due("tryIt(1, 5, true), nine", x.tryIt(1, 5, true), OUTSIDE);
        due("tryIt(5, 0, true), nine", x.tryIt(5, 0, true), UNKNOWN);
        due("count(6)", x.count(6), 8);
        BarRoutine y = Check.withGym(FIVE);
        for (int i = 1; i <= 8; i++) {
            due("tryIt(1, 4, false), " + i, y.tryIt(1, 4, false), i);
        }
        due("piece(1, 5), eight falls", y.piece(1, 5), 511);
        due("piece(1, 6), eight falls", y.piece(1, 6), 1);
        due("tryIt with no gym", new BarRoutine().tryIt(0, 0, true), UNKNOWN);
    }

    private static void forget() {
        Check.part("promise 18, forget");
        BarRoutine x = Check.withGym(FIVE, 2);
        x.tryIt(0, 4, true);
        x.tryIt(0, 0, true);
        due("forget()", x.forget(), 2);
        due("count(6)", x.count(6), 0);
        due("piece(0, 5)", x.piece(0, 5), 511);
        due("piece(0, 6)", x.piece(0, 6), 1);
        due("forget() again", x.forget(), 0);
        due("count(5)", x.count(5), 1);
        due("tryIt(1, 0, true)", x.tryIt(1, 0, true), 1);
    }

    private static void meets() {
        Check.part("promise 19, meets");
        // By seed 1 the draws of 10 are 8, 8, 3, 5, 1, 7.
        BarRoutine x = Check.withGym(FIVE, 0);
        due("meets(1, 1, 0): 8 is not less than 8", x.meets(1, 1, 0), 0);
        due("meets(1, 1, 1)", x.meets(1, 1, 1), 20000 - 15);
        due("meets(1, 1, 2)", x.meets(1, 1, 2), 1103527590);
        due("meets(5, 1, 0)", x.meets(5, 1, 0), 3);
        due("meets(5, 1, 1)", x.meets(5, 1, 1), 20000 - 2 * 15 - 3 * 2);
        x.put(1);
        due("meets(3, 1, 0), two pieces", x.meets(3, 1, 0), 1);
        due("meets(3, 1, 1), two pieces", x.meets(3, 1, 1), 20000 - 20 + 7 - 7);
        BarRoutine tired = Check.withGym("p19,p19,p19,p16,h16", 0, 1, 2, 3);
        due("meets(1, 1, 0): the fourth draw is 5, and tired it is 5 of ten", tired.meets(1, 1, 0), 0);
        due("meets(1, 1, 1)", tired.meets(1, 1, 1), 20000 + 3 - 10 - 10);
        tired.take(3);
        tired.put(4);
        due("meets(1, 1, 0): a hold has 6 of ten", tired.meets(1, 1, 0), 1);
        due("meets(1, 1, 1)", tired.meets(1, 1, 1), 20000 + 4 - 10);
        BarRoutine none = Check.withGym(FIVE);
        due("meets(60, 9, 0), nothing to fall from", none.meets(60, 9, 0), 60);
        due("meets(60, 9, 1)", none.meets(60, 9, 1), 20000 - 600);
        due("meets(60, 9, 2), no draw", none.meets(60, 9, 2), 9);
        due("meets(1, most, 2)", none.meets(1, MOST, 2), MOST);
        due("meets(1, 0, 2)", x.meets(1, 0, 2), (1103515245L * 12345L + 12345L) % 2147483648L);
        due("meets(1, most, 2)", x.meets(1, MOST, 2), seedBehind(MOST, 2));
        due("meets(0, 1, 0)", x.meets(0, 1, 0), OUTSIDE);
        due("meets(61, 1, 0)", x.meets(61, 1, 0), OUTSIDE);
        due("meets(1, -1, 0)", x.meets(1, -1, 0), OUTSIDE);
        due("meets(1, 1, 3)", x.meets(1, 1, 3), OUTSIDE);
        due("meets(1, 1, -1)", x.meets(1, 1, -1), OUTSIDE);
        due("meets(61, 1, 0), no gym", new BarRoutine().meets(61, 1, 0), OUTSIDE);
        due("meets(1, 1, 0), no gym", new BarRoutine().meets(1, 1, 0), STATE);
        due("count(5)", x.count(5), 2);
    }

    private static long seedBehind(long seed, int draws) {
        long now = seed;
        for (int i = 0; i < draws; i++) {
            now = (1103515245L * now + 12345L) & 0x7fffffffL;
        }
        return now;
    }

    private static void image() {
        Check.part("promise 20, image");
        BarRoutine x = Check.withGym(FIVE);
        due("image() of nothing", x.image(), 0);
        x.put(1);
        x.put(0);
        due("image()", x.image(), 2);
        x.swap(0, 1);
        due("image(), the latest", x.image(), 3);
        x.take(0);
        due("restore()", x.restore(), 3);
        due("at(0)", x.at(0), 0);
        due("at(1)", x.at(1), 1);
        due("image(), no gym", new BarRoutine().image(), STATE);
    }

    private static void restore() {
        Check.part("promise 21, restore");
        BarRoutine x = Check.withGym(FIVE, 3, 1);
        due("restore(), none was kept", x.restore(), STATE);
        x.tryIt(1, 4, true);
        x.image();
        x.put(0);
        x.take(0);
        x.tryIt(1, 0, false);
        x.best(1, 0);
        Check.write(x, "p5");
        due("restore()", x.restore(), 2);
        due("at(0)", x.at(0), 3);
        due("at(1)", x.at(1), 1);
        due("at(2)", x.at(2), UNKNOWN);
        due("count(5)", x.count(5), 2);
        due("count(6)", x.count(6), 1);
        due("count(7), the page stays", x.count(7), 2);
        due("count(9), bests stay", x.count(9), 1);
        due("piece(1, 5)", x.piece(1, 5), 508);
        due("piece(1, 6)", x.piece(1, 6), 9);
        x.forget();
        x.take(0);
        x.take(0);
        due("restore() again", x.restore(), 2);
        due("count(1)", x.count(1), 2);
        due("count(6)", x.count(6), 1);
        x.put(0);
        due("restore(), the image keeps apart", x.restore(), 2);
        due("count(1)", x.count(1), 2);
        x.blank();
        Check.write(x, FIVE);
        x.gym();
        due("restore(), another gym since", x.restore(), STATE);
        due("image()", x.image(), 0);
        due("restore()", x.restore(), 0);
    }

    private static void count() {
        Check.part("promise 22, count");
        BarRoutine x = Check.withGym(FIVE, 2, 0, 1, 3);
        x.swap(0, 0);
        x.take(3);
        x.put(4);
        x.put(4);
        x.tryIt(0, 0, true);
        x.best(1, 0);
        x.best(3, 12);
        Check.write(x, "abc");
        int[] want = {5, 4, 2, 1, 2, 7, 1, 3, 1, 2};
        for (int what = 0; what <= 9; what++) {
            due("count(" + what + ")", x.count(what), want[what]);
        }
        due("count(10)", x.count(10), OUTSIDE);
        due("count(-1)", x.count(-1), OUTSIDE);
        BarRoutine y = Check.withGym(FIVE, 1, 0, 3, 2);
        due("count(4), turn ahead of flight, flight of hold", y.count(4), 0);
        y.swap(2, 3);
        due("count(4), flight ahead of release", y.count(4), 1);
        y.blank();
        Check.write(y, FIVE);
        y.gym();
        due("count(8)", y.count(8), 2);
        due("count(5)", y.count(5), 0);
    }

    private static void digest() {
        Check.part("promise 23, digest");
        BarRoutine x = Check.withGym("f38,t27", 1);
        x.tryIt(0, 0, true);
        Check.write(x, "~!");
        long[] numbers = {
            1, 3, 8, -1, -1, 511, 9,
            2, 2, 7, 0, 7, 511, 1,
            1,
            // 2 - 5; .7 * 2 - 3 - 5 = -6.6
            197, 967, 5, 0, 1,
            126, 33,
            2, 1, 0, 1, 0, 1, 1, 2, 1, 0,
        };
        long h = 1033;
        for (long number : numbers) {
            h = 31 * h + number;
        }
        due("digest()", x.digest(), h);
        due("digest() again", x.digest(), h);
        x.best(1, 0);
        due("digest(), one best more", x.digest(), h + 1);
    }

    private static void refusalsInOrder() {
        Check.part("refusals, the first as told");
        BarRoutine x = Check.withGym("p11,f22");
        due("piece(9, 9)", x.piece(9, 9), UNKNOWN);
        due("as(9, 9)", x.as(9, 9), UNKNOWN);
        due("tryIt(9, 9, true)", x.tryIt(9, 9, true), UNKNOWN);
        due("best(9, 9)", x.best(9, 9), OUTSIDE);
        due("meets(9, -9, 9)", x.meets(9, -9, 9), OUTSIDE);
        due("swap(9, 9)", x.swap(9, 9), UNKNOWN);
    }

    private static void refusalsChangeNothing() {
        Check.part("refusals change nothing");
        BarRoutine x = Check.withGym(SEVEN, 0, 1, 2, 3, 4);
        for (int i = 0; i < 8; i++) {
            x.tryIt(i % 3, i % 5, i % 2 == 0);
        }
        for (int i = 0; i < 30; i++) {
            x.best(1, 0);
            x.letter(64);
        }
        long before = x.digest();
        x.letter(64);
        x.letter(0);
        x.gym();
        x.piece(7, 0);
        x.as(0, 7);
        x.put(0);
        x.put(5);
        x.put(-1);
        x.take(5);
        x.swap(0, 5);
        x.swap(5, 0);
        x.at(5);
        x.score(32);
        x.mean(5);
        x.odds(200, 0);
        x.best(1, 0);
        x.best(9, 0);
        x.more(0);
        x.tryIt(0, 0, true);
        x.meets(0, 0, 0);
        x.restore();
        x.count(10);
        due("digest()", x.digest(), before);
        x.mean(0);
        x.odds(0, 0);
        x.meets(10, 10, 0);
        x.image();
        x.fault();
        due("digest() behind calls that only tell", x.digest(), before);
    }
}
