/** The boundary sentences of the routine: of the terms about it and of the promises 8 to 12. */
public final class RoutineEdgesTest extends Edges {
    private RoutineEdgesTest() {
    }

    public static void main(String[] args) {
        upToFiveUnlikePieces();
        tiredBehindTwo();
        holdIsNeverLess();
        joinRightAhead();
        joinOfRelease();
        lackingFlightAndTurn();
        putTellsPlace();
        putTwice();
        putFull();
        putUnknown();
        takeComesNearer();
        takeUnknown();
        swapPerhapsOne();
        swapUnknown();
        atUnknown();
        scoreOfNothing();
        scoreByFalls();
        scoreOutside();
        scoreNoGym();
        Check.close("RoutineEdgesTest");
    }

    // ---- terms

    private static void upToFiveUnlikePieces() {
        term("a row of up to five unlike PIECES, PLACES from 0 on");
        BarRoutine x = Check.withGym(SEVEN);
        for (int piece = 6; piece >= 2; piece--) {
            due("put(" + piece + ")", x.put(piece), 6 - piece);
        }
        due("put(1), a sixth", x.put(1), FULL);
        for (int place = 0; place < 5; place++) {
            due("at(" + place + ")", x.at(place), 6 - place);
        }
        BarRoutine two = Check.withGym("p11,p11", 1, 0);
        due("put(0), a third of two", two.put(0), STATE);
        due("like in all but their numbers", two.count(1), 2);
    }

    /** How often of ten a piece of this kind, so sure, succeeds behind so many others. */
    private static int chance(char kind, int sure, int behind) {
        BarRoutine x = Check.withGym(kind + "1" + sure + ",p11,p11,p11,p11");
        for (int piece = 1; piece <= behind; piece++) {
            x.put(piece);
        }
        due("put(0)", x.put(0), behind);
        return x.piece(0, 4);
    }

    private static void tiredBehindTwo() {
        term("as it is SURE, 1 less for each PLACE behind 2 (by which one is TIRED; 0 at least)");
        int[][] tired = {
            {1, 2, 3, 4, 5, 6, 7, 8, 9},
            {1, 2, 3, 4, 5, 6, 7, 8, 9},
            {1, 2, 3, 4, 5, 6, 7, 8, 9},
            {0, 1, 2, 3, 4, 5, 6, 7, 8},
            {0, 0, 1, 2, 3, 4, 5, 6, 7},
        };
        for (char kind : "pftr".toCharArray()) {
            for (int place = 0; place < 5; place++) {
                for (int sure = 1; sure <= 9; sure++) {
                    int want = tired[place][sure - 1];
                    due(kind + " as sure as " + sure + " at " + place, chance(kind, sure, place), want);
                }
            }
        }
    }

    private static void holdIsNeverLess() {
        term("a HOLD is never less by that");
        for (int place = 0; place < 5; place++) {
            for (int sure = 1; sure <= 9; sure++) {
                due("a hold as sure as " + sure + " at " + place, chance('h', sure, place), sure);
            }
        }
    }

    private static void joinRightAhead() {
        term("a FLIGHT that succeeds right ahead of a FLIGHT or a TURN that succeeds");
        String gym = "f15,t15,h15,p15,f15";
        joined("flight, turn", gym, 1, 0, 1);
        joined("flight, flight", gym, 1, 0, 4);
        joined("turn, flight", gym, 0, 1, 0);
        joined("flight, hold", gym, 0, 0, 2);
        joined("flight, piece", gym, 0, 0, 3);
        joined("hold, turn", gym, 0, 2, 1);
        joined("piece, flight", gym, 0, 3, 0);
        joined("flight, hold, turn", gym, 0, 0, 2, 1);
        joined("a flight last, alone", gym, 0, 0);
        joined("a flight last, behind a hold", gym, 0, 2, 0);
        joined("turn, flight, flight: the first two are none", gym, 1, 1, 0, 4);
        joined("at the last two places", gym, 1, 2, 3, 1, 4, 0);
        joined("four of four", "f15,f15,f15,f15,t15", 4, 0, 1, 2, 3, 4);
        BarRoutine x = Check.withGym(gym, 0, 1);
        due("the first falls", x.score(1), 200 - 10 + 1);
        due("the second falls", x.score(2), 200 + 1 - 10);
        due("both fall", x.score(3), 200 - 20);
        due("none falls", x.score(0), 200 + 1 + 1 + 2);
        due("count(4) is of all that would succeed", x.count(4), 1);
    }

    /** Each worth 1, with joins that give 2. */
    private static void joined(String name, String gym, int joins, int... pieces) {
        BarRoutine x = Check.withGym(gym, pieces);
        int lacking = (x.count(2) == 0 ? 5 : 0) + (x.count(3) == 0 ? 5 : 0);
        due(name + ": count(4)", x.count(4), joins);
        due(name + ": score(0)", x.score(0), 200 + pieces.length + 2 * joins - lacking);
    }

    private static void joinOfRelease() {
        term("if the first one is a RELEASE, 3 in place of 2");
        String gym = "r15,f15,t15,r15";
        due("release, turn", Check.withGym(gym, 0, 2).score(0), 200 + 2 + 3);
        due("release, flight, no turn", Check.withGym(gym, 0, 1).score(0), 200 + 2 + 3 - 5);
        due("release, release, no turn", Check.withGym(gym, 0, 3).score(0), 200 + 2 + 3 - 5);
        due("flight, release, no turn", Check.withGym(gym, 1, 0).score(0), 200 + 2 + 2 - 5);
        due("turn, release", Check.withGym(gym, 2, 0).score(0), 200 + 2);
        due("flight, release, turn", Check.withGym(gym, 1, 0, 2).score(0), 200 + 3 + 2 + 3);
        due("flight, release that falls, turn", Check.withGym(gym, 1, 0, 2).score(2), 200 + 2 - 10);
    }

    private static void lackingFlightAndTurn() {
        term("5 less if there is no FLIGHT in the ROUTINE, 5 less if there is no TURN");
        BarRoutine x = Check.withGym("f15,t15,r15,p15,h15");
        due("nothing in it", x.score(0), 190);
        x.put(3);
        due("a piece", x.score(0), 200 + 1 - 10);
        x.put(1);
        due("a turn, no flight", x.score(0), 200 + 2 - 5);
        due("a turn that falls is in it", x.score(2), 200 + 1 - 10 - 5);
        x.put(2);
        due("a release is a flight", x.score(0), 200 + 3);
        due("all fall, and are in it", x.score(7), 200 - 30);
        x.take(1);
        due("no turn any more", x.score(0), 200 + 2 - 5);
    }

    // ---- promise 8

    private static void putTellsPlace() {
        sentence(8, "A PIECE is put behind the ROUTINE: its PLACE.");
        BarRoutine x = Check.withGym(SEVEN);
        due("put(6), the first", x.put(6), 0);
        due("put(0)", x.put(0), 1);
        x.take(0);
        due("put(6), behind", x.put(6), 1);
        due("at(0)", x.at(0), 0);
        due("at(1)", x.at(1), 6);
        due("count(5)", x.count(5), 4);
    }

    private static void putTwice() {
        sentence(8, "STATE: it is in it");
        BarRoutine x = Check.withGym(SEVEN, 6, 5, 4);
        for (int piece = 4; piece <= 6; piece++) {
            int again = piece;
            still(x, "put(" + piece + ") again", () -> x.put(again), STATE);
        }
        x.put(3);
        x.put(2);
        still(x, "put(6) again, full, too", () -> x.put(6), STATE);
        still(x, "put(2) again, full, too", () -> x.put(2), STATE);
    }

    private static void putFull() {
        sentence(8, "FULL.");
        BarRoutine x = Check.withGym(SEVEN, 6, 5, 4, 3);
        due("put(2), the fifth", x.put(2), 4);
        still(x, "put(1), the sixth", () -> x.put(1), FULL);
        still(x, "put(0), the sixth", () -> x.put(0), FULL);
        x.take(4);
        due("put(1), the fifth again", x.put(1), 4);
    }

    private static void putUnknown() {
        sentence(8, "UNKNOWN; STATE: it is in it; FULL.");
        BarRoutine x = Check.withGym(SEVEN, 6, 5, 4, 3, 2);
        for (int piece : new int[] {-1, 7, LEAST, MOST}) {
            still(x, "put(" + piece + "), full, too", () -> x.put(piece), UNKNOWN);
        }
        BarRoutine two = Check.withGym("p11,p12");
        still(two, "put(2) of two", () -> two.put(2), UNKNOWN);
        still(two, "put(-1) of two", () -> two.put(-1), UNKNOWN);
    }

    // ---- promise 9

    private static void takeComesNearer() {
        sentence(9, "The PIECE at a PLACE is taken out, those behind it come nearer: which it was.");
        for (int place = 0; place < 5; place++) {
            BarRoutine x = Check.withGym(SEVEN, 6, 5, 4, 3, 2);
            due("take(" + place + ")", x.take(place), 6 - place);
            for (int left = 0; left < 4; left++) {
                due("at(" + left + ")", x.at(left), left < place ? 6 - left : 5 - left);
            }
            due("at(4)", x.at(4), UNKNOWN);
            due("count(5)", x.count(5), 6);
        }
        BarRoutine one = Check.withGym(SEVEN, 3);
        due("take(0), the only one", one.take(0), 3);
        due("count(1)", one.count(1), 0);
        due("piece(3, 3)", one.piece(3, 3), NONE);
        due("score(0), nothing in it", one.score(0), 190);
    }

    private static void takeUnknown() {
        sentence(9, "UNKNOWN: place.");
        BarRoutine x = Check.withGym(SEVEN, 6, 5);
        for (int place : new int[] {-1, 2, 5, LEAST, MOST}) {
            still(x, "take(" + place + ")", () -> x.take(place), UNKNOWN);
        }
        BarRoutine none = Check.withGym(SEVEN);
        still(none, "take(0), nothing in it", () -> none.take(0), UNKNOWN);
        BarRoutine five = Check.withGym(SEVEN, 6, 5, 4, 3, 2);
        still(five, "take(5) of five", () -> five.take(5), UNKNOWN);
    }

    // ---- promise 10

    private static void swapPerhapsOne() {
        sentence(10, "PIECES at two PLACES (perhaps one) change about: how often the ROUTINE was changed (this, too).");
        BarRoutine x = Check.withGym(SEVEN, 6, 5, 4, 3, 2);
        due("swap(0, 0)", x.swap(0, 0), 6);
        due("swap(4, 4)", x.swap(4, 4), 7);
        for (int place = 0; place < 5; place++) {
            due("at(" + place + "), as it was", x.at(place), 6 - place);
        }
        due("swap(0, 4), first and last", x.swap(0, 4), 8);
        due("at(0)", x.at(0), 2);
        due("at(4)", x.at(4), 6);
        due("swap(2, 1)", x.swap(2, 1), 9);
        due("at(1)", x.at(1), 4);
        due("at(2)", x.at(2), 5);
        due("at(3), as it was", x.at(3), 3);
        due("count(5)", x.count(5), 9);
    }

    private static void swapUnknown() {
        sentence(10, "UNKNOWN: a, b.");
        BarRoutine x = Check.withGym(SEVEN, 6, 5);
        for (int place : new int[] {-1, 2, LEAST, MOST}) {
            still(x, "swap(" + place + ", 0)", () -> x.swap(place, 0), UNKNOWN);
            still(x, "swap(1, " + place + ")", () -> x.swap(1, place), UNKNOWN);
            still(x, "swap of like ones " + place, () -> x.swap(place, place), UNKNOWN);
        }
        BarRoutine none = Check.withGym(SEVEN);
        still(none, "swap(0, 0), nothing in it", () -> none.swap(0, 0), UNKNOWN);
        BarRoutine five = Check.withGym(SEVEN, 6, 5, 4, 3, 2);
        still(five, "swap(4, 5) of five", () -> five.swap(4, 5), UNKNOWN);
        still(five, "swap(5, 4) of five", () -> five.swap(5, 4), UNKNOWN);
    }

    // ---- promise 11

    private static void atUnknown() {
        sentence(11, "Which PIECE is at a PLACE. UNKNOWN: place.");
        BarRoutine x = Check.withGym(SEVEN, 6, 0);
        due("at(0)", x.at(0), 6);
        due("at(1): piece 0", x.at(1), 0);
        for (int place : new int[] {-1, 2, 5, LEAST, MOST}) {
            still(x, "at(" + place + ")", () -> x.at(place), UNKNOWN);
        }
        x.take(1);
        still(x, "at(1), taken", () -> x.at(1), UNKNOWN);
        BarRoutine five = Check.withGym(SEVEN, 6, 5, 4, 3, 2);
        still(five, "at(4) of five", () -> five.at(4), 2);
        still(five, "at(5) of five", () -> five.at(5), UNKNOWN);
    }

    // ---- promise 12

    private static void scoreOfNothing() {
        sentence(12, "The SCORE, and 200");
        due("nothing in it", Check.withGym(SEVEN).score(0), 190);
        due("the least, all fall", Check.withGym("p11,p11,p11,p11,p11", 0, 1, 2, 3, 4).score(31), 140);
        String great = "r91,r91,r91,r91,t91";
        due("the greatest, none falls", Check.withGym(great, 0, 1, 2, 3, 4).score(0), 200 + 45 + 12);
    }

    private static void scoreByFalls() {
        sentence(12, "if there are FALLS at just some PLACES");
        BarRoutine x = Check.withGym("p15,p25,p45,p85,h95", 0, 1, 2, 3, 4);
        int[] worths = {1, 2, 4, 8, 9};
        for (int falls = 0; falls < 32; falls++) {
            int want = 190;
            for (int place = 0; place < 5; place++) {
                want += (falls / (1 << place)) % 2 == 1 ? -10 : worths[place];
            }
            due("score(" + falls + ")", x.score(falls), want);
        }
    }

    private static void scoreOutside() {
        sentence(12, "OUTSIDE: falls (bits of PLACES)");
        BarRoutine x = Check.withGym(SEVEN);
        for (int size = 0; size <= 5; size++) {
            int beyond = 1 << size;
            due("score of all, " + size, x.score(beyond - 1), 190 - 10 * size + 5 * x.count(3)
                + (x.count(2) > 0 ? 5 : 0));
            for (int falls : new int[] {beyond, beyond + 1, 64, 256, -1, -beyond, LEAST, MOST}) {
                still(x, "score(" + falls + ") of " + size, () -> x.score(falls), OUTSIDE);
            }
            x.put(size);
        }
    }

    private static void scoreNoGym() {
        sentence(12, "STATE: no GYM.");
        BarRoutine x = new BarRoutine();
        still(x, "score(0)", () -> x.score(0), STATE);
        still(x, "score(1)", () -> x.score(1), OUTSIDE);
        still(x, "score(-1)", () -> x.score(-1), OUTSIDE);
    }
}
