import java.math.BigInteger;

/** The boundary sentences of what is tried: of the terms about it and of the promises 17 to 19. */
public final class TriedEdgesTest extends Edges {
    private TriedEdgesTest() {
    }

    public static void main(String[] args) {
        howSureAsBits();
        howSureByKind();
        likelyOfLikeOnes();
        likelyNothingTried();
        likelyOfEight();
        tryOutside();
        tryUnknown();
        tryFull();
        triedOfAnotherPiece();
        forgetTellsHowMany();
        meetsOfNothing();
        meetsLessThan();
        meetsNeverAndTired();
        drawsWrap();
        drawsRoundedDown();
        meetsOutside();
        meetsNoGym();
        Check.close("TriedEdgesTest");
    }

    // ---- terms and promise 17

    /** Of piece 0, tried at places: as p if it succeeds at place p, as 10 + p if it falls there. */
    private static void howSure(String name, String gym, int bits, int likely, int... places) {
        BarRoutine x = Check.withGym(gym);
        for (int place : places) {
            x.tryIt(0, place % 10, place < 10);
        }
        due(name + ": piece(0, 5)", x.piece(0, 5), bits);
        due(name + ": piece(0, 6)", x.piece(0, 6), likely);
    }

    private static void howSureAsBits() {
        term("as bits (1 for 1, 2 for 2, 4 for 3, and so on)");
        for (int place = 0; place <= 2; place++) {
            howSure("a success at " + place, "p11,p11", 511, 9, place);
            howSure("a fall at " + place, "p11,p11", 511, 1, 10 + place);
        }
        howSure("a success at 3: not 1", "p11,p11", 510, 9, 3);
        howSure("a success at 4: not 1 nor 2", "p11,p11", 508, 9, 4);
        howSure("a fall at 3", "p11,p11", 511, 1, 13);
        howSure("a fall at 4", "p11,p11", 511, 1, 14);
        // 6: 5 * 4 * 4, 7: 6 * 5 * 3, 8: 7 * 6 * 2
        howSure("a success at 3 and 4, a fall at 0", "p11,p11", 508, 7, 3, 4, 10);
        howSure("how sure the gym tells does not matter: 9", "p19,p11", 511, 1, 10);
        howSure("how sure the gym tells does not matter: 1", "p11,p11", 511, 9, 0);
    }

    private static void howSureByKind() {
        term("HOW SURE it can be (1 to 9), by its KIND");
        for (String kind : new String[] {"p", "f", "t", "r"}) {
            howSure(kind + " tires", kind + "55,p11", 508, 9, 4);
        }
        howSure("a hold does not", "h55,p11", 511, 9, 4);
        howSure("a hold, a fall and a success at 4", "h55,p11", 511, 5, 4, 14);
        howSure("a piece, a fall and a success at 4: 5 * 5 of 7", "p55,p11", 508, 7, 4, 14);
    }

    private static void likelyOfLikeOnes() {
        term("by which of these all that is TRIED of it is most likely: of like ones the least");
        howSure("s * (10 - s)", "p11,p11", 511, 5, 0, 10);
        howSure("(s - 1) * (10 - s): 5 and 6 alike", "p11,p11", 510, 5, 3, 10);
        howSure("10 and 10 of ten fall: 1 and 2 alike", "p11,p11", 511, 1, 14);
        howSure("a hold falls by 9 of ten at 4, as sure as 1", "h11,p11", 511, 1, 14);
        howSure("s * (10 - s + 1)", "p11,p11", 511, 5, 0, 13);
        howSure("s * (10 - s + 2)", "p11,p11", 511, 6, 0, 14);
        howSure("s * s * (10 - s): 6 is 144, 7 is 147", "p11,p11", 511, 7, 0, 1, 12);
        howSure("s * (10 - s) * (10 - s): 3 is 147, 4 is 144", "p11,p11", 511, 3, 0, 11, 12);
    }

    private static void likelyNothingTried() {
        term("(1, if nothing is TRIED of it)");
        BarRoutine x = Check.withGym("p11,p12,p13", 0);
        due("piece(0, 5)", x.piece(0, 5), 511);
        due("piece(0, 6)", x.piece(0, 6), 1);
        x.tryIt(1, 4, true);
        due("piece(0, 6), of another one", x.piece(0, 6), 1);
        due("piece(0, 5), of another one", x.piece(0, 5), 511);
        due("piece(1, 6)", x.piece(1, 6), 9);
        due("piece(2, 6)", x.piece(2, 6), 1);
        due("tryIt(0, 5, true)", x.tryIt(0, 5, true), OUTSIDE);
        due("piece(0, 6), what is refused is not tried", x.piece(0, 6), 1);
    }

    private static void likelyOfEight() {
        term("TRIED (8 at most)");
        howSure("eight falls at 4", "p11,p11", 511, 1, 14, 14, 14, 14, 14, 14, 14, 14);
        howSure("eight successes at 4", "p11,p11", 508, 9, 4, 4, 4, 4, 4, 4, 4, 4);
        howSure("eight successes of a hold", "h11,p11", 511, 9, 4, 4, 4, 4, 4, 4, 4, 4);
        howSure("seven falls and a success", "p11,p11", 511, 1, 10, 10, 10, 10, 10, 10, 10, 0);
        // As sure as 3 it has 1 of ten there
        howSure("a success and seven falls at 4", "p11,p11", 508, 3, 4, 14, 14, 14, 14, 14, 14, 14);
        howSure("what was the ninth is not tried", "p11,p11", 511, 1, 10, 10, 10, 10, 10, 10, 10, 10, 4);
        BarRoutine x = Check.withGym("p11,p11");
        for (int i = 1; i <= 8; i++) {
            due("tryIt " + i, x.tryIt(i % 2, i % 5, true), i);
        }
        due("count(6)", x.count(6), 8);
    }

    private static void tryOutside() {
        sentence(17, "OUTSIDE: behind (0 to 4)");
        BarRoutine x = Check.withGym("p11,p11");
        for (int behind : new int[] {-1, 5, 10, LEAST, MOST}) {
            still(x, "tryIt(0, " + behind + ", true)", () -> x.tryIt(0, behind, true), OUTSIDE);
            still(x, "tryIt(1, " + behind + ", false)", () -> x.tryIt(1, behind, false), OUTSIDE);
        }
        for (int behind = 0; behind <= 4; behind++) {
            due("tryIt(0, " + behind + ", true)", x.tryIt(0, behind, true), behind + 1);
        }
        for (int i = 6; i <= 8; i++) {
            x.tryIt(0, 0, false);
        }
        still(x, "tryIt(0, 5, true), full, too", () -> x.tryIt(0, 5, true), OUTSIDE);
        still(x, "tryIt(0, -1, true), full, too", () -> x.tryIt(0, -1, true), OUTSIDE);
    }

    private static void tryUnknown() {
        sentence(17, "UNKNOWN: piece; OUTSIDE: behind (0 to 4); FULL.");
        BarRoutine x = Check.withGym("p11,p11");
        for (int piece : new int[] {-1, 2, 7, LEAST, MOST}) {
            still(x, "tryIt(" + piece + ", 0, true)", () -> x.tryIt(piece, 0, true), UNKNOWN);
            still(x, "tryIt(" + piece + ", 5, true)", () -> x.tryIt(piece, 5, true), UNKNOWN);
        }
        for (int i = 0; i < 8; i++) {
            x.tryIt(0, 0, false);
        }
        still(x, "tryIt(2, 0, true), full, too", () -> x.tryIt(2, 0, true), UNKNOWN);
        still(x, "tryIt(2, 5, true), full, too", () -> x.tryIt(2, 5, true), UNKNOWN);
    }

    private static void tryFull() {
        sentence(17, "It is TRIED: how much is.", "FULL");
        BarRoutine x = Check.withGym("p11,p11");
        for (int i = 1; i <= 8; i++) {
            due("tryIt(1, 4, false), " + i, x.tryIt(1, 4, false), i);
        }
        still(x, "tryIt(1, 4, true), the ninth", () -> x.tryIt(1, 4, true), FULL);
        still(x, "tryIt(0, 4, true), the ninth", () -> x.tryIt(0, 4, true), FULL);
        due("forget()", x.forget(), 8);
        due("tryIt(0, 4, true), the first again", x.tryIt(0, 4, true), 1);
        due("piece(1, 5)", x.piece(1, 5), 511);
    }

    private static void triedOfAnotherPiece() {
        term("all that is TRIED of it");
        BarRoutine x = Check.withGym("p11,h11,p11", 2);
        x.tryIt(0, 3, true);
        x.tryIt(1, 4, true);
        x.tryIt(2, 4, true);
        x.tryIt(2, 0, false);
        int[] bits = {510, 511, 508};
        // (s - 2) * (10 - s) of the last one
        int[] likely = {9, 9, 6};
        for (int piece = 0; piece < 3; piece++) {
            due("piece(" + piece + ", 5)", x.piece(piece, 5), bits[piece]);
            due("piece(" + piece + ", 6)", x.piece(piece, 6), likely[piece]);
        }
        x.take(0);
        due("count(6), the routine is another", x.count(6), 4);
        due("piece(2, 5), taken", x.piece(2, 5), 508);
    }

    // ---- promise 18

    private static void forgetTellsHowMany() {
        sentence(18, "Nothing is TRIED any more: how much was.");
        BarRoutine x = Check.withGym("p11,p11", 1);
        still(x, "forget(), nothing is tried", x::forget, 0);
        long before = x.digest();
        for (int many = 1; many <= 8; many++) {
            for (int i = 0; i < many; i++) {
                x.tryIt(i % 2, 4, true);
            }
            due("forget() of " + many, x.forget(), many);
            due("digest(), all else stays", x.digest(), before);
        }
        x.tryIt(0, 4, true);
        x.image();
        x.forget();
        due("restore()", x.restore(), 1);
        due("forget(), the image has it still", x.forget(), 1);
    }

    // ---- promise 19

    private static void meetsOfNothing() {
        sentence(19, "MEETS: what = 0 how many times, 1 all SCORES, and 20000, 2 the SEED then.", "nothing in it");
        BarRoutine x = Check.withGym(FIVE);
        for (int times : new int[] {1, 2, 59, 60}) {
            for (int seed : new int[] {0, 1, MOST}) {
                String call = "meets(" + times + ", " + seed + ", ";
                due(call + "0)", x.meets(times, seed, 0), times);
                due(call + "1)", x.meets(times, seed, 1), 20000 - 10 * times);
                due(call + "2), no draw", x.meets(times, seed, 2), seed);
            }
        }
    }

    /** The draws by a seed, told by long arithmetic alone. */
    private static int draw(long seed, int number) {
        return (int) (seedBehind(seed, number) / 65536 % 10);
    }

    private static long seedBehind(long seed, int number) {
        long now = seed;
        for (int i = 0; i < number; i++) {
            now = Math.floorMod(1103515245L * now + 12345L, 2147483648L);
        }
        return now;
    }

    /** The least seed whose draw of this number is this one. */
    private static int seedFor(int number, int draw) {
        int seed = 0;
        while (draw(seed, number) != draw) {
            seed++;
        }
        return seed;
    }

    private static void meetsLessThan() {
        term("a DRAW of 10: it succeeds, if that is less than how often of ten");
        for (int sure = 1; sure <= 9; sure++) {
            BarRoutine x = Check.withGym("p1" + sure + ",p11", 0);
            for (int draw = 0; draw <= 9; draw++) {
                int seed = seedFor(1, draw);
                boolean succeeds = draw < sure;
                String call = "as sure as " + sure + ", draw " + draw + ": meets(1, " + seed + ", ";
                due(call + "0)", x.meets(1, seed, 0), succeeds ? 1 : 0);
                due(call + "1)", x.meets(1, seed, 1), 20000 - 10 + (succeeds ? 1 : -10));
            }
        }
    }

    private static void meetsNeverAndTired() {
        term("so many times the ROUTINE is done, of each PIECE, by PLACES, a DRAW of 10");
        BarRoutine x = Check.withGym("p19,p19,p19,p19,p12,h12", 0, 1, 2, 3, 4);
        int seed = seedFor(5, 0);
        int want = 20000 - 10;
        for (int place = 0; place < 4; place++) {
            want += draw(seed, place + 1) < (place == 3 ? 8 : 9) ? 1 : -10;
        }
        due("at place 4 it falls by a draw of 0, too", x.meets(1, seed, 1), want - 10);
        due("never without a fall", x.meets(60, seed, 0), 0);
        x.take(4);
        x.put(5);
        due("a hold does not", x.meets(1, seed, 1), want + 1);
        due("five draws each time", x.meets(60, 7, 2), seedBehind(7, 300));
        x.take(0);
        due("four draws each time", x.meets(60, 7, 2), seedBehind(7, 240));
        BarRoutine y = Check.withGym("p98,p11", 0, 1);
        int other = seedFor(2, 0);
        due("the second draw is of place 1", y.meets(1, other, 1),
            20000 - 10 + (draw(other, 1) < 8 ? 9 : -10) + 1);
    }

    private static void drawsWrap() {
        term("1103515245 times it and 12345, its rest by 2 to the 31");
        BarRoutine x = Check.withGym("p15,p11", 0);
        due("meets(1, 0, 2)", x.meets(1, 0, 2), 12345);
        due("meets(1, 1, 2)", x.meets(1, 1, 2), 1103527590);
        due("meets(1, 2, 2): beyond 2 to the 31", x.meets(1, 2, 2), 59559187);
        due("meets(1, most, 2)", x.meets(1, MOST, 2), 1043980748);
        due("meets(1, most, 0)", x.meets(1, MOST, 0), 1043980748 / 65536 % 10 < 5 ? 1 : 0);
        for (int seed : new int[] {0, 1, 2, 12345, 1 << 30, MOST - 1, MOST}) {
            for (int times : new int[] {1, 2, 60}) {
                due("meets(" + times + ", " + seed + ", 2)", x.meets(times, seed, 2), seedBehind(seed, times));
            }
        }
    }

    /** The seed right behind which stands this number, by the rule of the draws turned about. */
    private static int seedAhead(long number) {
        BigInteger all = BigInteger.TWO.pow(31);
        BigInteger back = BigInteger.valueOf(1103515245).modInverse(all);
        return BigInteger.valueOf(number - 12345).multiply(back).mod(all).intValueExact();
    }

    private static void drawsRoundedDown() {
        term("then that by 65536 (rounded down), its rest");
        draws(0, 0);
        draws(65535, 0);
        draws(65536, 1);
        draws(9 * 65536 - 1, 8);
        draws(9 * 65536, 9);
        draws(10 * 65536 - 1, 9);
        draws(10 * 65536, 0);
        draws(11 * 65536 - 1, 0);
        draws(11 * 65536, 1);
        // 2 to the 31 is 32768 times 65536
        draws(32767L * 65536 - 1, 6);
        draws(32767L * 65536, 7);
        draws(MOST, 7);
    }

    private static void draws(long number, int draw) {
        int seed = seedAhead(number);
        for (int sure = 1; sure <= 9; sure++) {
            BarRoutine x = Check.withGym("p1" + sure + ",p11", 0);
            due("the next seed of " + seed, x.meets(1, seed, 2), number);
            due("by " + number + " as sure as " + sure, x.meets(1, seed, 0), draw < sure ? 1 : 0);
        }
    }

    private static void meetsOutside() {
        sentence(19, "OUTSIDE: times (1 to 60), seed (0 at least), what");
        BarRoutine x = Check.withGym(FIVE, 0, 1);
        BarRoutine none = new BarRoutine();
        for (int times : new int[] {-1, 0, 61, LEAST, MOST}) {
            still(x, "meets(" + times + ", 1, 0)", () -> x.meets(times, 1, 0), OUTSIDE);
            still(none, "meets(" + times + ", 1, 0), no gym", () -> none.meets(times, 1, 0), OUTSIDE);
        }
        for (int seed : new int[] {-1, LEAST}) {
            still(x, "meets(1, " + seed + ", 2)", () -> x.meets(1, seed, 2), OUTSIDE);
            still(none, "meets(1, " + seed + ", 2), no gym", () -> none.meets(1, seed, 2), OUTSIDE);
        }
        for (int what : new int[] {-1, 3, LEAST, MOST}) {
            still(x, "meets(1, 1, " + what + ")", () -> x.meets(1, 1, what), OUTSIDE);
            still(none, "meets(1, 1, " + what + "), no gym", () -> none.meets(1, 1, what), OUTSIDE);
        }
        still(x, "meets(60, 0, 2)", () -> x.meets(60, 0, 2), (int) seedBehind(0, 120));
        still(x, "meets(1, most, 2)", () -> x.meets(1, MOST, 2), (int) seedBehind(MOST, 2));
    }

    private static void meetsNoGym() {
        sentence(19, "STATE: no GYM.");
        BarRoutine none = new BarRoutine();
        for (int what = 0; what <= 2; what++) {
            int asked = what;
            still(none, "meets(1, 0, " + what + ")", () -> none.meets(1, 0, asked), STATE);
            still(none, "meets(60, most, " + what + ")", () -> none.meets(60, MOST, asked), STATE);
        }
    }
}
