/** The boundary sentences of what would be: mean, odds, best and more, promises 13 to 16. */
public final class ChanceEdgesTest extends Edges {
    /** Five holds, each succeeding once of ten at every place. */
    private static final String HOLDS = "h11,h11,h11,h11,h11";

    private ChanceEdgesTest() {
    }

    public static void main(String[] args) {
        meanOfNothing();
        meanInLowestTerms();
        meanRefusals();
        oddsAsMuchOrMore();
        oddsNoneAndAll();
        oddsOfTired();
        oddsOutside();
        oddsNoGym();
        bestFirstByNumbers();
        bestNotSoMany();
        bestSoManieth();
        bestOfItsOwn();
        bestOutside();
        bestThirtyTimes();
        bestNoGym();
        moreNoneGreater();
        moreOfLikeOnes();
        moreBehindIt();
        moreOutside();
        moreFive();
        Check.close("ChanceEdgesTest");
    }

    private static void mean(String name, BarRoutine x, int above, int below) {
        due(name + ": mean(0)", x.mean(0), above);
        due(name + ": mean(1)", x.mean(1), below);
    }

    private static void odds(BarRoutine x, int score, int above, int below) {
        due("odds(" + score + ", 0)", x.odds(score, 0), above);
        due("odds(" + score + ", 1)", x.odds(score, 1), below);
    }

    // ---- promise 13

    private static void meanOfNothing() {
        sentence(13, "MEAN: what = 0 above, 1 below", "nothing in the ROUTINE");
        mean("nothing", Check.withGym(FIVE), 190, 1);
        BarRoutine x = Check.withGym(FIVE, 2);
        x.take(0);
        mean("all taken", x, 190, 1);
    }

    private static void meanInLowestTerms() {
        sentence(13, "what = 0 above, 1 below, in lowest terms.");
        mean("tenths", Check.withGym("p11,p11", 0), 1811, 10);
        mean("halves", Check.withGym("p55,p55", 0), 375, 2);
        mean("wholes", Check.withGym("p55,p55", 0, 1), 185, 1);
        // .9 * 9 - 1 = 7.1, thrice; then tired .8 and .7: 5.2, 3.3; joins 3 * (.81 + .81 + .72 + .56)
        mean("the greatest", Check.withGym("r99,r99,r99,r99,t99", 0, 1, 2, 3, 4), 477, 2);
        // .1 * 1 - 9, thrice; then tired 0 and 0
        mean("the least", Check.withGym("p11,p11,p11,p11,p11", 0, 1, 2, 3, 4), 1433, 10);
        // .5, .5 and .1 of ten; a join of .25 * 2 and one of .05 * 2: 200 - 4.5 - 4.5 - 8.9 + .5 + .1
        mean("joins", Check.withGym("f15,f15,t11", 0, 1, 2), 1827, 10);
        // .1 - 9, twice; the join .01 * 2; no turn
        mean("fiftieths", Check.withGym("f11,f11", 0, 1), 8861, 50);
        // the same with a join of .01 * 3
        mean("hundredths", Check.withGym("r11,f11", 0, 1), 17723, 100);
    }

    private static void meanRefusals() {
        sentence(13, "OUTSIDE; STATE: no GYM.");
        BarRoutine x = Check.withGym(FIVE, 0);
        BarRoutine none = new BarRoutine();
        for (int what : new int[] {-1, 2, 10, LEAST, MOST}) {
            still(x, "mean(" + what + ")", () -> x.mean(what), OUTSIDE);
            still(none, "mean(" + what + "), no gym", () -> none.mean(what), OUTSIDE);
        }
        still(none, "mean(0), no gym", () -> none.mean(0), STATE);
        still(none, "mean(1), no gym", () -> none.mean(1), STATE);
    }

    // ---- promise 14

    private static void oddsAsMuchOrMore() {
        term("ODDS for some SCORE: how likely there is as much, or more");
        // 4 - 5 with .5, else -15
        BarRoutine x = Check.withGym("t45,p11", 0);
        odds(x, -1, 1, 2);
        odds(x, 0, 0, 1);
        odds(x, -2, 1, 2);
        odds(x, -14, 1, 2);
        odds(x, -15, 1, 1);
        odds(x, -16, 1, 1);
        // All of five succeed once of 100000: -5; none does 59049 times: -60.
        BarRoutine five = Check.withGym(HOLDS, 0, 1, 2, 3, 4);
        odds(five, -5, 1, 100000);
        odds(five, -4, 0, 1);
        odds(five, -6, 1, 100000);
        odds(five, -15, 1, 100000);
        // Four of five: 45 times, and all
        odds(five, -16, 23, 50000);
        odds(five, -60, 1, 1);
        odds(five, -59, 40951, 100000);
        odds(five, -49, 40951, 100000);
    }

    private static void oddsNoneAndAll() {
        sentence(14, "what = 0 above, 1 below, in lowest terms (0 of 1).");
        odds(Check.withGym(HOLDS, 0, 1, 2, 3, 4), 100, 0, 1);
        odds(Check.withGym(HOLDS, 0, 1, 2, 3, 4), -100, 1, 1);
        odds(Check.withGym(HOLDS), -10, 1, 1);
        odds(Check.withGym(HOLDS), -9, 0, 1);
        odds(Check.withGym(HOLDS), 0, 0, 1);
        odds(Check.withGym("t12,p11", 0), -4, 1, 5);
        odds(Check.withGym("t15,p11", 0), -4, 1, 2);
        odds(Check.withGym("t13,p11", 0), -4, 3, 10);
    }

    private static void oddsOfTired() {
        sentence(14, "ODDS: what = 0 above, 1 below", "tired to 0 of ten");
        BarRoutine x = Check.withGym("h19,h19,h19,p91,p92", 0, 1, 2, 3);
        // At place 3 it never succeeds: 3 - 10 - 10 is the most.
        odds(x, -17, 729, 1000);
        odds(x, -16, 0, 1);
        x.take(3);
        x.put(4);
        odds(x, 2, 729, 10000);
    }

    private static void oddsOutside() {
        sentence(14, "OUTSIDE: score (-100 to 100), what");
        BarRoutine x = Check.withGym(FIVE, 0);
        BarRoutine none = new BarRoutine();
        for (int score : new int[] {-101, 101, LEAST, MOST}) {
            still(x, "odds(" + score + ", 0)", () -> x.odds(score, 0), OUTSIDE);
            still(x, "odds(" + score + ", 1)", () -> x.odds(score, 1), OUTSIDE);
            still(none, "odds(" + score + ", 0), no gym", () -> none.odds(score, 0), OUTSIDE);
        }
        for (int what : new int[] {-1, 2, LEAST, MOST}) {
            still(x, "odds(0, " + what + ")", () -> x.odds(0, what), OUTSIDE);
            still(none, "odds(0, " + what + "), no gym", () -> none.odds(0, what), OUTSIDE);
        }
        still(x, "odds(-100, 0)", () -> x.odds(-100, 0), 1);
        still(x, "odds(-100, 1)", () -> x.odds(-100, 1), 1);
        still(x, "odds(100, 0)", () -> x.odds(100, 0), 0);
        still(x, "odds(100, 1)", () -> x.odds(100, 1), 1);
    }

    private static void oddsNoGym() {
        sentence(14, "STATE: no GYM.");
        BarRoutine none = new BarRoutine();
        for (int score : new int[] {-100, 0, 100}) {
            still(none, "odds(" + score + ", 0)", () -> none.odds(score, 0), STATE);
            still(none, "odds(" + score + ", 1)", () -> none.odds(score, 1), STATE);
        }
    }

    // ---- promise 15

    private static void best(BarRoutine x, int many, int... pieces) {
        for (int i = 0; i < 3; i++) {
            int want = i < pieces.length ? pieces[i] : NONE;
            due("best(" + many + ", " + (10 + i) + ")", x.best(many, 10 + i), want);
        }
    }

    private static void bestFirstByNumbers() {
        term("the greatest MEAN: of like ones the first by numbers");
        BarRoutine like = Check.withGym("p55,p55,p55,p55,p55,p55,p55");
        best(like, 1, 0);
        best(like, 2, 0, 1);
        best(like, 3, 0, 1, 2);
        // Unlike pieces with like means: 9 * 12 = 6 * 18
        best(Check.withGym("p86,p29"), 1, 0);
        best(Check.withGym("p29,p86"), 1, 0);
        best(Check.withGym("p11,p29,p86"), 1, 1);
        best(Check.withGym("p11,p29,p86"), 2, 1, 2);
        // Greater by a hundredth part only, and later: the flight is right ahead of the turn
        best(Check.withGym("t11,f11"), 2, 1, 0);
        best(Check.withGym("p11,p11,p11,p11,p11,p11,p12"), 1, 6);
        best(Check.withGym("p11,p11,p11,p11,p12,p12,p12"), 3, 4, 5, 6);
        // Flight, release, turn and release, flight, turn have the same joins
        best(Check.withGym("p11,p11,p11,p11,t19,f19,r19"), 3, 5, 6, 4);
    }

    private static void bestNotSoMany() {
        sentence(15, "NONE: there is none.");
        BarRoutine two = Check.withGym("p55,p66");
        for (int what : new int[] {0, 1, 10, 11, 12}) {
            due("best(3, " + what + ") of two", two.best(3, what), NONE);
        }
        best(two, 2, 0, 1);
        // 2.5 - 5 and 3.6 - 4, and neither flight nor turn
        due("best(2, 0) of two", two.best(2, 0), 1871);
        due("best(2, 1) of two", two.best(2, 1), 10);
        BarRoutine three = Check.withGym("p55,p55,p55");
        best(three, 3, 0, 1, 2);
        due("best(3, 0) of three", three.best(3, 0), 365);
        due("best(3, 1) of three", three.best(3, 1), 2);
    }

    private static void bestSoManieth() {
        sentence(15, "10 to 12 the so-manieth PIECE (NONE: there is none such)");
        BarRoutine x = Check.withGym("t59,p19,f59,p99");
        // .9 * 5 - 1 - 5, the flight no better: of like ones the first
        best(x, 1, 0);
        due("best(1, 0)", x.best(1, 0), 397);
        due("best(1, 1)", x.best(1, 1), 2);
        // .9 * 5 - 1, twice, and .81 * 2
        best(x, 2, 2, 0);
        due("best(2, 0)", x.best(2, 0), 10431);
        due("best(2, 1)", x.best(2, 1), 50);
        // .9 * 9 - 1 more: 15.72
        best(x, 3, 2, 0, 3);
        due("best(3, 0)", x.best(3, 0), 5393);
        due("best(3, 1)", x.best(3, 1), 25);
    }

    private static void bestOfItsOwn() {
        term("which, in which order, as a ROUTINE of their own");
        BarRoutine x = Check.withGym("t59,p19,f59,p99,p11,p11,p11", 4, 5, 6, 2, 0);
        long before = x.digest();
        best(x, 2, 2, 0);
        due("best(2, 0): not tired", x.best(2, 0), 10431);
        due("digest() but for count(9)", x.digest(), before + 4);
        due("restore(): no image is made", x.restore(), STATE);
    }

    private static void bestOutside() {
        sentence(15, "OUTSIDE: many (1 to 3), what");
        BarRoutine x = Check.withGym(FIVE, 0);
        BarRoutine none = new BarRoutine();
        for (int many : new int[] {-1, 0, 4, 5, LEAST, MOST}) {
            still(x, "best(" + many + ", 0)", () -> x.best(many, 0), OUTSIDE);
            still(x, "best(" + many + ", 10)", () -> x.best(many, 10), OUTSIDE);
            still(none, "best(" + many + ", 0), no gym", () -> none.best(many, 0), OUTSIDE);
        }
        for (int what : new int[] {-1, 2, 3, 9, 13, LEAST, MOST}) {
            still(x, "best(1, " + what + ")", () -> x.best(1, what), OUTSIDE);
            still(x, "best(3, " + what + ")", () -> x.best(3, what), OUTSIDE);
            still(none, "best(1, " + what + "), no gym", () -> none.best(1, what), OUTSIDE);
        }
    }

    private static void bestThirtyTimes() {
        sentence(15, "best() was done 30 times ever (refusals do not count, all else does)");
        BarRoutine x = Check.withPage("p11,p12");
        x.best(1, 0);
        x.gym();
        x.image();
        x.best(0, 0);
        x.best(1, 9);
        due("count(9), three refused", x.count(9), 0);
        for (int i = 1; i <= 10; i++) {
            due("best(3, 10), none", x.best(3, 10), NONE);
            due("count(9)", x.count(9), i);
        }
        for (int i = 11; i <= 20; i++) {
            due("best(1, 12), none such", x.best(1, 12), NONE);
            due("count(9)", x.count(9), i);
        }
        due("restore()", x.restore(), 0);
        due("count(9) is not of the image", x.count(9), 20);
        due("gym() again", reread(x, "p12,p11,p11"), 3);
        for (int i = 21; i <= 30; i++) {
            due("best(3, 10)", x.best(3, 10), 0);
            due("count(9)", x.count(9), i);
        }
        still(x, "best(1, 0), 31", () -> x.best(1, 0), STATE);
        still(x, "best(3, 12), 31", () -> x.best(3, 12), STATE);
        still(x, "best(0, 0), 31", () -> x.best(0, 0), OUTSIDE);
        still(x, "best(1, 13), 31", () -> x.best(1, 13), OUTSIDE);
        due("another gym", reread(x, "p11,p12"), 2);
        still(x, "best(1, 0), 31, another gym", () -> x.best(1, 0), STATE);
        still(x, "best(3, 0), 31, not so many", () -> x.best(3, 0), STATE);
    }

    private static void bestNoGym() {
        sentence(15, "STATE: no GYM");
        BarRoutine none = new BarRoutine();
        for (int many = 1; many <= 3; many++) {
            int asked = many;
            still(none, "best(" + many + ", 0)", () -> none.best(asked, 0), STATE);
            still(none, "best(" + many + ", 12)", () -> none.best(asked, 12), STATE);
        }
        due("count(9)", none.count(9), 0);
    }

    // ---- promise 16

    private static void moreNoneGreater() {
        term("nothing, if none makes them greater");
        BarRoutine x = Check.withGym("t97,p11");
        due("more(-100): 1 as it is", x.more(-100), NONE);
        due("more(-10): 1 as it is", x.more(-10), NONE);
        due("more(100): 0 ever", x.more(100), NONE);
        x.put(0);
        // 4 or -15 now; the piece leaves -6 if it falls, and -14 if it alone succeeds.
        due("more(-6): .7 either way", x.more(-6), NONE);
        due("more(-5): .07 in place of .7", x.more(-5), NONE);
        due("more(-14): .73 in place of .7", x.more(-14), 1);
        due("more(5): .07 in place of 0", x.more(5), 1);
        x.put(1);
        due("more(5): all are in it", x.more(5), NONE);
        BarRoutine y = Check.withGym("t19,p11", 0);
        due("more(-14): .91 in place of .9", y.more(-14), 1);
    }

    private static void moreOfLikeOnes() {
        term("nothing, if none makes them greater: of like ones the least");
        BarRoutine x = Check.withGym("p55,p55,p55,p55");
        due("more(-5)", x.more(-5), 0);
        x.put(0);
        due("more(0)", x.more(0), 1);
        x.put(2);
        due("more(5)", x.more(5), 1);
        BarRoutine y = Check.withGym("p15,p25,p26,p36,p96");
        due("more(-9): .6 thrice", y.more(-9), 2);
        due("more(-8): .6 twice behind it", y.more(-8), 2);
        due("more(-7): two reach it", y.more(-7), 3);
        due("more(-1): the last one alone", y.more(-1), 4);
        due("more(0): none reaches it", y.more(0), NONE);
        // The last one of a full gym, and an unlike one as likely
        due("more(-5)", Check.withGym("p11,p11,p11,p11,p11,p11,t19").more(-5), 6);
        due("more(-4): turn and flight alike", Check.withGym("p19,t19,f19").more(-4), 1);
        due("more(-4): flight and turn alike", Check.withGym("p19,f19,t19").more(-4), 1);
    }

    private static void moreBehindIt() {
        term("which PIECE that is not in the ROUTINE to put behind it");
        BarRoutine x = Check.withGym("h19,h19,h19,p91,h11", 0, 1, 2);
        due("more(-7): none is surer", x.more(-7), NONE);
        due("more(-6): at place 3 the piece never succeeds", x.more(-6), 4);
        due("more(-5): nor for more", x.more(-5), NONE);
        x.put(4);
        due("more(-5): nor at place 4", x.more(-5), NONE);
        BarRoutine y = Check.withGym("t19,p99,f11,f12", 1);
        due("more(5): 9 + 1 - 5, by the turn or a flight", y.more(5), 0);
        // With the turn in it a flight is behind it, and no join: 9 + 1 + 1
        y.put(0);
        due("more(11)", y.more(11), 3);
        due("more(12)", y.more(12), NONE);
        // Behind a flight the turn is joined: 1 + 1 + 2
        due("more(4)", Check.withGym("p79,t19,f19", 2).more(4), 1);
        BarRoutine z = Check.withGym(FIVE, 0);
        still(z, "more(0) puts nothing", () -> z.more(0), 1);
    }

    private static void moreOutside() {
        sentence(16, "OUTSIDE: score (-100 to 100)");
        BarRoutine x = Check.withGym(FIVE, 0);
        BarRoutine five = Check.withGym(FIVE, 0, 1, 2, 3, 4);
        BarRoutine none = new BarRoutine();
        for (int score : new int[] {-101, 101, LEAST, MOST}) {
            still(x, "more(" + score + ")", () -> x.more(score), OUTSIDE);
            still(five, "more(" + score + ") of five", () -> five.more(score), OUTSIDE);
            still(none, "more(" + score + "), no gym", () -> none.more(score), OUTSIDE);
        }
        still(x, "more(-100)", () -> x.more(-100), NONE);
        still(x, "more(100)", () -> x.more(100), NONE);
    }

    private static void moreFive() {
        sentence(16, "STATE: no GYM, or there are five PIECES in the ROUTINE.");
        BarRoutine none = new BarRoutine();
        still(none, "more(-100), no gym", () -> none.more(-100), STATE);
        still(none, "more(100), no gym", () -> none.more(100), STATE);
        BarRoutine x = Check.withGym("h19,h19,h19,h19,h19,h19", 0, 1, 2, 3);
        still(x, "more(-5) of four", () -> x.more(-5), 4);
        x.put(5);
        still(x, "more(-5) of five", () -> x.more(-5), STATE);
        x.take(0);
        still(x, "more(-5) of four again", () -> x.more(-5), 0);
    }
}
