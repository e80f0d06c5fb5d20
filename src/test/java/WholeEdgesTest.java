/** The boundary sentences of what is told of all: image, restore, count and digest, promises 20 to 23. */
public final class WholeEdgesTest extends Edges {
    private WholeEdgesTest() {
    }

    public static void main(String[] args) {
        imageLatest();
        imageOfNothing();
        imageNoGym();
        restoreGoesOn();
        restoreTried();
        restoreFull();
        restoreNoneKept();
        restoreAnotherGym();
        countsAreOfWhatIs();
        countChanges();
        countGymsAndBests();
        countOutside();
        digestNoGym();
        digestOfGym();
        digestOdds();
        digestWraps();
        digestTellsOnly();
        Check.close("WholeEdgesTest");
    }

    private static void routine(String name, BarRoutine x, int... pieces) {
        due(name + ": count(1)", x.count(1), pieces.length);
        for (int place = 0; place < pieces.length; place++) {
            due(name + ": at(" + place + ")", x.at(place), pieces[place]);
        }
    }

    // ---- promise 20

    private static void imageLatest() {
        sentence(20, "An IMAGE is kept (one; the latest): how often the ROUTINE was changed.");
        BarRoutine x = Check.withGym(SEVEN, 0, 1, 2, 3, 4);
        due("image()", x.image(), 5);
        due("image() again", x.image(), 5);
        x.take(0);
        x.take(0);
        due("image(), the latest", x.image(), 7);
        x.swap(0, 2);
        x.put(6);
        due("restore()", x.restore(), 7);
        routine("the latest", x, 2, 3, 4);
        due("restore(): not the one before", x.restore(), 7);
        BarRoutine y = Check.withGym(SEVEN, 0);
        long before = y.digest();
        y.image();
        due("digest(): an image changes nothing", y.digest(), before);
        due("image() behind restore()", x.image(), 7);
    }

    private static void imageOfNothing() {
        sentence(20, "An IMAGE is kept", "nothing in the ROUTINE");
        BarRoutine x = Check.withGym(SEVEN);
        due("image()", x.image(), 0);
        x.put(0);
        x.tryIt(0, 0, true);
        due("restore()", x.restore(), 0);
        routine("nothing", x);
        due("count(5)", x.count(5), 0);
        due("count(6)", x.count(6), 0);
        due("put(0)", x.put(0), 0);
    }

    private static void imageNoGym() {
        sentence(20, "STATE: no GYM.");
        BarRoutine x = new BarRoutine();
        still(x, "image()", x::image, STATE);
        Check.write(x, SEVEN);
        still(x, "image(), a gym on the page alone", x::image, STATE);
        due("gym()", x.gym(), 7);
        still(x, "restore(): a refused image is none", x::restore, STATE);
        due("image()", x.image(), 0);
    }

    // ---- promise 21

    private static void restoreGoesOn() {
        sentence(21, "It goes on from the IMAGE: how often the ROUTINE was changed.");
        BarRoutine x = Check.withGym(SEVEN, 6, 5, 4, 3, 2);
        x.image();
        long before = x.digest();
        x.swap(0, 4);
        for (int i = 0; i < 5; i++) {
            x.take(0);
        }
        x.put(0);
        due("restore()", x.restore(), 5);
        routine("as it was", x, 6, 5, 4, 3, 2);
        due("digest()", x.digest(), before);
        due("swap(0, 0) goes on from there", x.swap(0, 0), 6);
        x.swap(0, 1);
        x.take(4);
        due("restore(): the image stands yet", x.restore(), 5);
        routine("as it was", x, 6, 5, 4, 3, 2);
        due("piece(3, 4), tired as then", x.piece(3, 4), 4);
        still(x, "restore() once more", x::restore, 5);
    }

    private static void restoreTried() {
        term("An IMAGE keeps the ROUTINE, how often it was changed, TRIED");
        BarRoutine x = Check.withGym("p11,p12,p13");
        x.tryIt(0, 3, true);
        x.tryIt(1, 4, true);
        x.tryIt(1, 0, false);
        x.image();
        long before = x.digest();
        x.forget();
        for (int i = 0; i < 8; i++) {
            x.tryIt(2, 4, true);
        }
        due("restore()", x.restore(), 0);
        due("count(6)", x.count(6), 3);
        int[] bits = {510, 508, 511};
        int[] likely = {9, 6, 1};
        for (int piece = 0; piece < 3; piece++) {
            due("piece(" + piece + ", 5)", x.piece(piece, 5), bits[piece]);
            due("piece(" + piece + ", 6)", x.piece(piece, 6), likely[piece]);
        }
        due("digest()", x.digest(), before);
        // Behind restore() what is tried is the image's no more: it may be overwritten
        x.forget();
        x.tryIt(2, 1, false);
        x.tryIt(2, 1, false);
        x.tryIt(2, 1, true);
        due("restore() again", x.restore(), 0);
        due("digest() again", x.digest(), before);
        due("tryIt(0, 0, true)", x.tryIt(0, 0, true), 4);
    }

    private static void restoreFull() {
        sentence(21, "It goes on from the IMAGE", "full");
        BarRoutine x = Check.withGym(SEVEN, 6, 0, 5, 1, 4);
        for (int i = 0; i < 8; i++) {
            x.tryIt(i % 7, 1 + i % 4, i % 2 == 1);
        }
        x.image();
        long before = x.digest();
        x.forget();
        for (int i = 0; i < 5; i++) {
            x.take(0);
            x.tryIt(i, 4, true);
        }
        due("restore()", x.restore(), 5);
        due("digest()", x.digest(), before);
        routine("five", x, 6, 0, 5, 1, 4);
        still(x, "tryIt(0, 0, true), full again", () -> x.tryIt(0, 0, true), FULL);
        still(x, "put(2), full again", () -> x.put(2), FULL);
        x.image();
        due("restore() of the second image", x.restore(), 5);
        due("digest() of the second image", x.digest(), before);
        due("forget()", x.forget(), 8);
    }

    private static void restoreNoneKept() {
        sentence(21, "STATE: none was kept");
        BarRoutine x = new BarRoutine();
        still(x, "restore(), no gym", x::restore, STATE);
        due("gym()", reread(x, FIVE), 5);
        x.put(0);
        still(x, "restore(), no image", x::restore, STATE);
        routine("as it is", x, 0);
    }

    private static void restoreAnotherGym() {
        sentence(21, "or there is another GYM since.");
        BarRoutine x = Check.withGym(FIVE, 0, 1);
        x.image();
        due("gym() of the same text", reread(x, FIVE), 5);
        x.put(2);
        still(x, "restore()", x::restore, STATE);
        routine("as it is", x, 2);
        due("image()", x.image(), 1);
        x.put(3);
        due("restore()", x.restore(), 1);
        Check.write(x, "p1");
        due("gym() that is none", x.gym(), STATE);
        x.put(4);
        due("restore(): there is no other gym", x.restore(), 1);
        routine("as then", x, 2);
        due("count(7): the page is no part of it", x.count(7), 2);
        due("count(8)", x.count(8), 2);
    }

    // ---- promise 22

    private static void countsAreOfWhatIs() {
        sentence(22, "2 FLIGHTS in it, 3 TURNS in it, 4 JOINS in it, if all succeed");
        BarRoutine x = Check.withGym("r11,f11,r11,f11,t11,t11,h11");
        int[][] want = {{0, 0, 0, 0}, {1, 1, 0, 0}, {2, 2, 0, 1}, {3, 3, 0, 2}, {4, 4, 0, 3}, {5, 4, 1, 4}};
        for (int size = 0; size <= 5; size++) {
            for (int what = 1; what <= 4; what++) {
                due("count(" + what + ") of " + size, x.count(what), want[size][what - 1]);
            }
            x.put(size);
        }
        x.swap(0, 4);
        due("count(4): turn, flight, release, flight, release", x.count(4), 3);
        BarRoutine y = Check.withGym("t11,t11,f11,h11", 0, 1, 2);
        due("count(3), two turns", y.count(3), 2);
        due("count(2), one flight", y.count(2), 1);
        due("count(4), turns ahead", y.count(4), 0);
        y.put(3);
        due("count(4), a hold behind", y.count(4), 0);
        due("count(0), all pieces", y.count(0), 4);
    }

    private static void countChanges() {
        sentence(22, "5 how often it was changed (put(), take(), swap())");
        BarRoutine x = Check.withGym(FIVE);
        due("count(5)", x.count(5), 0);
        x.put(0);
        due("put", x.count(5), 1);
        x.take(0);
        due("take", x.count(5), 2);
        x.put(1);
        x.swap(0, 0);
        due("put and swap of one place", x.count(5), 4);
        x.put(1);
        x.put(9);
        x.take(1);
        x.swap(0, 1);
        due("refusals do not count", x.count(5), 4);
        x.tryIt(0, 0, true);
        x.forget();
        x.best(2, 0);
        x.more(0);
        x.meets(3, 3, 0);
        x.image();
        due("nor what changes no routine", x.count(5), 4);
        for (int i = 5; i <= 300; i++) {
            due("swap(0, 0)", x.swap(0, 0), i);
        }
        due("count(5), many", x.count(5), 300);
        due("restore()", x.restore(), 4);
        due("count(5), of the image", x.count(5), 4);
    }

    private static void countGymsAndBests() {
        sentence(22, "7 letters of THE PAGE, 8 how often a GYM was read, 9 how often best() was done");
        BarRoutine x = Check.withPage("p11,f1");
        due("count(7)", x.count(7), 6);
        x.gym();
        due("count(8), refused", x.count(8), 0);
        x.letter('1');
        x.gym();
        due("count(7), read", x.count(7), 0);
        due("count(8)", x.count(8), 1);
        x.image();
        for (int many = 2; many <= 10; many++) {
            due("gym()", reread(x, "p11,f11"), 2);
            due("count(8)", x.count(8), many);
        }
        x.best(1, 0);
        x.best(3, 0);
        x.best(4, 0);
        due("count(9)", x.count(9), 2);
        x.image();
        x.best(1, 0);
        x.letter(65);
        x.restore();
        due("count(7), not of the image", x.count(7), 1);
        due("count(8), not of the image", x.count(8), 10);
        due("count(9), not of the image", x.count(9), 3);
        due("a gym again", reread(x, "p11,f11"), 2);
        due("count(9), another gym", x.count(9), 3);
    }

    private static void countOutside() {
        sentence(22, "OUTSIDE.");
        BarRoutine x = Check.withGym(FIVE, 0);
        BarRoutine none = new BarRoutine();
        for (int what : new int[] {-1, 10, 11, LEAST, MOST}) {
            still(x, "count(" + what + ")", () -> x.count(what), OUTSIDE);
            still(none, "count(" + what + "), no gym", () -> none.count(what), OUTSIDE);
        }
        due("count(0)", x.count(0), 5);
        due("count(9)", x.count(9), 0);
    }

    // ---- promise 23

    private static void digestNoGym() {
        sentence(23, "letters of THE PAGE, each by its code", "no gym");
        BarRoutine x = new BarRoutine();
        due("digest(), new", x.digest(), hashOf(0, 0, 0, 0, 0, 0, 0, 0, 0, 0));
        x.letter(126);
        x.letter(1);
        due("digest(), letters", x.digest(), hashOf(126, 1, 0, 0, 0, 0, 0, 0, 0, 2, 0, 0));
        x.blank();
        due("digest(), blank", x.digest(), hashOf(0, 0, 0, 0, 0, 0, 0, 0, 0, 0));
    }

    private static void digestOfGym() {
        sentence(23, "of each PIECE what piece() tells for 0 to 6; the PIECE at each PLACE; with a GYM the SCORE");
        BarRoutine x = Check.withGym("r91,h19");
        due("digest(), nothing in it", x.digest(), hashOf(
            4, 9, 1, NONE, NONE, 511, 1,
            3, 1, 9, NONE, NONE, 511, 1,
            190, 190, 1, 0, 1,
            2, 0, 0, 0, 0, 0, 0, 0, 1, 0));
        x.put(1);
        x.put(0);
        // .9 - 1 and .9 - 9, no turn: -13.2; at most 10 - 5
        due("digest(), both in it", x.digest(), hashOf(
            4, 9, 1, 1, 1, 511, 1,
            3, 1, 9, 0, 9, 511, 1,
            1, 0,
            205, 934, 5, 0, 1,
            2, 2, 1, 0, 0, 2, 0, 0, 1, 0));
    }

    private static void digestOdds() {
        sentence(23, "ODDS for SCORE 10 for 0 and 1");
        // 5 + 3 + 2 is just 10 with .81, 4 + 3 + 2 just less.
        int[][] want = {{5, 81, 100}, {4, 0, 1}, {6, 81, 100}};
        for (int[] one : want) {
            BarRoutine x = Check.withGym("f" + one[0] + "9,t39", 0, 1);
            int worth = one[0];
            // Each falls once of ten: .9 * (worth + 3) - 2 + .81 * 2, in hundredths
            int hundredths = 20000 + 90 * (worth + 3) - 200 + 162;
            due("mean", (long) x.mean(0) * (100 / x.mean(1)), hundredths);
            due("digest(), " + (worth + 5), x.digest(), hashOf(
                1, worth, 9, 0, 9, 511, 1,
                2, 3, 9, 1, 9, 511, 1,
                0, 1,
                205 + worth, x.mean(0), x.mean(1), one[1], one[2],
                2, 2, 1, 1, 1, 2, 0, 0, 1, 0));
        }
    }

    private static void digestWraps() {
        sentence(23, "31 times h, and it (as longs, wrapping)");
        BarRoutine x = Check.withPage("~~~~~~~~~~~~~~~~~~~~~~~~~~~~~~");
        java.math.BigInteger h = java.math.BigInteger.valueOf(1033);
        for (int i = 0; i < 40; i++) {
            int number = i < 30 ? 126 : i == 37 ? 30 : 0;
            h = h.multiply(java.math.BigInteger.valueOf(31)).add(java.math.BigInteger.valueOf(number));
        }
        Check.holds("it is beyond a long", h.bitLength() > 63);
        due("digest()", x.digest(), h.longValue());
        due("digest() of ten noughts", new BarRoutine().digest(), 1033L * 819628286980801L);
    }

    private static void digestTellsOnly() {
        sentence(23, "h is 1033, then for each of these numbers, in order", "again and again");
        BarRoutine x = Check.withGym(FIVE, 0, 1);
        x.tryIt(0, 4, true);
        x.image();
        x.letter(65);
        long first = x.digest();
        for (int i = 0; i < 20; i++) {
            due("digest()", x.digest(), first);
        }
        due("count(9)", x.count(9), 0);
        due("restore()", x.restore(), 2);
        due("digest() behind restore() of the same", x.digest(), first);
    }
}
