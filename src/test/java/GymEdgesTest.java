/** The boundary sentences of the gym: of the terms about it and of the promises 1 to 7. */
public final class GymEdgesTest extends Edges {
    /** Of seven pieces, and the commas between: no gym has a letter behind them. */
    private static final int GYM_LETTERS = 27;

    private GymEdgesTest() {
    }

    public static void main(String[] args) {
        twoToSevenPieces();
        commaBetween();
        eachLetterAtEachPlace();
        worthAndSure();
        kindsByLetter();
        noGym();
        letterCounts();
        letterCodes();
        letterAboveThirty();
        blankTellsHowMany();
        faultIsFirst();
        faultNone();
        faultBehindTheMost();
        gymGoneWithAll();
        gymIsNone();
        pieceNotInRoutine();
        pieceRefusals();
        asNoneSuch();
        asRefusals();
        Check.close("GymEdgesTest");
    }

    // ---- terms

    private static void twoToSevenPieces() {
        term("two to seven PIECES (numbered from 0)");
        for (int length = 0; length <= GYM_LETTERS; length++) {
            BarRoutine x = Check.withPage(SEVEN.substring(0, length));
            boolean whole = length % 4 == 3 && length > 3;
            due("gym() of " + length + " letters", x.gym(), whole ? (length + 1) / 4 : STATE);
        }
        due("gym() of one", Check.withPage("p11").gym(), STATE);
        due("gym() of seven and a bit", Check.withPage(SEVEN + ",p1").gym(), STATE);
        BarRoutine two = Check.withGym("f19,p91");
        due("piece(0, 0) of two", two.piece(0, 0), 1);
        due("piece(1, 1) of two", two.piece(1, 1), 9);
        due("piece(2, 0) of two", two.piece(2, 0), UNKNOWN);
        BarRoutine seven = Check.withGym(SEVEN);
        due("piece(6, 2) of seven", seven.piece(6, 2), 7);
        due("piece(7, 0) of seven", seven.piece(7, 0), UNKNOWN);
    }

    private static void commaBetween() {
        term("with \",\" between");
        String[] wrong = {",p11,p12", "p11p12", "p11,,p12", "p11,p12,", "p11;p12", "p11 p12", "p11, p12", "p1,1p12"};
        for (String text : wrong) {
            due("gym() of \"" + text + "\"", Check.withPage(text).gym(), STATE);
        }
        due("gym() of \"p11,p12\"", Check.withPage("p11,p12").gym(), 2);
    }

    private static void eachLetterAtEachPlace() {
        term("each a letter, the KIND, and two digits: WORTH (1 to 9 tenths), how SURE it is (1 to 9, of ten)");
        String[] fitting = {"pfthr", "123456789", "123456789", ","};
        for (int place = 0; place < GYM_LETTERS; place++) {
            for (int code = 1; code <= 126; code++) {
                BarRoutine x = Check.withPage(SEVEN.substring(0, place));
                x.letter(code);
                boolean fits = fitting[place % 4].indexOf((char) code) >= 0;
                due("fault() of letter " + code + " at " + place, x.fault(), fits ? place + 1 : place);
            }
        }
    }

    private static void worthAndSure() {
        term("WORTH (1 to 9 tenths), how SURE it is (1 to 9, of ten)");
        for (int digit = 1; digit <= 9; digit++) {
            BarRoutine x = Check.withGym("p" + digit + (10 - digit) + ",p11");
            due("piece(0, 1)", x.piece(0, 1), digit);
            due("piece(0, 2)", x.piece(0, 2), 10 - digit);
        }
        String[] wrong = {"p01,p11", "p10,p11", "p11,p01", "p11,p10", "p:1,p11", "p1:,p11", "p/1,p11", "p1/,p11"};
        for (String text : wrong) {
            due("gym() of \"" + text + "\"", Check.withPage(text).gym(), STATE);
        }
    }

    private static void kindsByLetter() {
        term("KINDS are told by the letter: 0 PIECE \"p\", 1 FLIGHT \"f\", 2 TURN \"t\", 3 HOLD \"h\", 4 RELEASE \"r\"");
        BarRoutine x = Check.withGym("p11,f11,t11,h11,r11");
        for (int kind = 0; kind <= 4; kind++) {
            due("piece(" + kind + ", 0)", x.piece(kind, 0), kind);
        }
        String[] wrong = {"P11,p11", "F11,p11", "T11,p11", "H11,p11", "R11,p11", "o11,p11", "s11,p11"};
        for (String text : wrong) {
            due("gym() of \"" + text + "\"", Check.withPage(text).gym(), STATE);
        }
    }

    // ---- promise 1

    private static void noGym() {
        sentence(1, "No GYM.");
        BarRoutine x = new BarRoutine();
        for (int what = 0; what <= 9; what++) {
            due("count(" + what + ")", x.count(what), 0);
        }
        due("fault()", x.fault(), 0);
        still(x, "gym()", x::gym, STATE);
        still(x, "piece(0, 0)", () -> x.piece(0, 0), UNKNOWN);
        still(x, "as(0, 0)", () -> x.as(0, 0), UNKNOWN);
        still(x, "put(0)", () -> x.put(0), UNKNOWN);
        still(x, "take(0)", () -> x.take(0), UNKNOWN);
        still(x, "swap(0, 0)", () -> x.swap(0, 0), UNKNOWN);
        still(x, "at(0)", () -> x.at(0), UNKNOWN);
        still(x, "score(0)", () -> x.score(0), STATE);
        still(x, "mean(0)", () -> x.mean(0), STATE);
        still(x, "odds(0, 0)", () -> x.odds(0, 0), STATE);
        still(x, "best(1, 0)", () -> x.best(1, 0), STATE);
        still(x, "more(0)", () -> x.more(0), STATE);
        still(x, "tryIt(0, 0, true)", () -> x.tryIt(0, 0, true), UNKNOWN);
        still(x, "forget()", x::forget, 0);
        still(x, "meets(1, 0, 0)", () -> x.meets(1, 0, 0), STATE);
        still(x, "image()", x::image, STATE);
        still(x, "restore()", x::restore, STATE);
        due("digest()", x.digest(), hashOf(0, 0, 0, 0, 0, 0, 0, 0, 0, 0));
        due("letter(112)", x.letter(112), 1);
        due("letter 1 of another object", new BarRoutine().letter(112), 1);
    }

    // ---- promise 2

    private static void letterCounts() {
        sentence(2, "A letter comes behind THE PAGE, by its code: how many THE PAGE has.");
        BarRoutine x = new BarRoutine();
        for (int i = 1; i <= 30; i++) {
            due("letter(" + (i + 96) + ")", x.letter(i + 96), i);
        }
        long[] numbers = new long[40];
        for (int i = 0; i < 30; i++) {
            numbers[i] = i + 97;
        }
        numbers[37] = 30;
        due("digest()", x.digest(), hashOf(numbers));
    }

    private static void letterCodes() {
        sentence(2, "OUTSIDE: code (1 to 126)");
        int[] wrong = {0, -1, 127, 128, 233, 255, 256 + 65, 65536 + 65, -65, LEAST, LEAST + 65, MOST};
        for (int code : wrong) {
            BarRoutine x = Check.withPage("p1");
            still(x, "letter(" + code + ")", () -> x.letter(code), OUTSIDE);
        }
        BarRoutine x = new BarRoutine();
        due("letter(1)", x.letter(1), 1);
        due("letter(126)", x.letter(126), 2);
        due("digest()", x.digest(), hashOf(1, 126, 0, 0, 0, 0, 0, 0, 0, 2, 0, 0));
    }

    private static void letterAboveThirty() {
        sentence(2, "FULL: above 30.");
        BarRoutine x = Check.withPage(SEVEN + ",p");
        due("letter 30", x.letter('1'), 30);
        still(x, "letter 31", () -> x.letter('1'), FULL);
        still(x, "letter(0), full", () -> x.letter(0), OUTSIDE);
        still(x, "letter(127), full", () -> x.letter(127), OUTSIDE);
        due("blank()", x.blank(), 30);
        due("letter 1 behind blank()", x.letter('p'), 1);
    }

    // ---- promise 3

    private static void blankTellsHowMany() {
        sentence(3, "THE PAGE is empty: how many letters it had.");
        BarRoutine x = new BarRoutine();
        due("blank(), empty", x.blank(), 0);
        x.letter(0);
        x.letter(127);
        due("blank(), two refused", x.blank(), 0);
        x.letter(65);
        due("blank() of one", x.blank(), 1);
        due("count(7)", x.count(7), 0);
        due("fault()", x.fault(), 0);
        for (int i = 0; i < 35; i++) {
            x.letter(65);
        }
        due("blank(), full, five refused", x.blank(), 30);
        due("blank() again", x.blank(), 0);
        BarRoutine y = Check.withGym(FIVE, 2, 1);
        y.tryIt(0, 0, true);
        y.image();
        long before = y.digest();
        y.letter(65);
        due("blank() with a gym", y.blank(), 1);
        due("digest(): all else stays", y.digest(), before);
        due("restore(): the image stays", y.restore(), 2);
    }

    // ---- promise 4

    private static void faultIsFirst() {
        sentence(4, "The place (from 0) of the first letter of THE PAGE that no GYM has there");
        due("fault() at 0", Check.withPage("x").fault(), 0);
        due("fault() at 0, and 1, and 2", Check.withPage("xyz").fault(), 0);
        due("fault() at 2, and 5", Check.withPage("p1x,px1").fault(), 2);
        due("fault() at 3", Check.withPage("p11p11,x").fault(), 3);
        due("fault() at the last", Check.withPage("p11,p1p").fault(), 6);
        due("fault(): no worth of 0", Check.withPage("p01").fault(), 1);
        due("fault(): not so sure as 0", Check.withPage("p10").fault(), 2);
        BarRoutine x = Check.withPage("p1x");
        still(x, "fault() tells only", x::fault, 2);
        due("gym() as nothing was read", x.gym(), STATE);
    }

    private static void faultNone() {
        sentence(4, "how many letters it has, if there is none.");
        for (int length = 0; length <= GYM_LETTERS; length++) {
            due("fault() of " + length, Check.withPage(SEVEN.substring(0, length)).fault(), length);
        }
    }

    private static void faultBehindTheMost() {
        sentence(4, "no GYM has there, behind those ahead of it");
        String[] behind = {",", ",p", ",p1", "p", "1", "11", "x"};
        for (String more : behind) {
            due("fault() of seven and \"" + more + "\"", Check.withPage(SEVEN + more).fault(), GYM_LETTERS);
        }
        due("fault() of six and \",\"", Check.withPage(SEVEN.substring(0, 24)).fault(), 24);
        due("fault(): an earlier one counts", Check.withPage("p" + SEVEN + ",").fault(), 1);
    }

    // ---- promise 5

    private static void gymGoneWithAll() {
        sentence(5, "another one is gone, with all that was, how often the ROUTINE was changed, too");
        BarRoutine x = Check.withGym(SEVEN, 6, 5, 4, 3, 2);
        x.swap(0, 1);
        x.tryIt(0, 4, true);
        x.tryIt(6, 4, true);
        due("image()", x.image(), 6);
        Check.write(x, "h99,p22");
        due("gym()", x.gym(), 2);
        int[] counts = {2, 0, 0, 0, 0, 0, 0, 0, 2, 0};
        for (int what = 0; what <= 9; what++) {
            due("count(" + what + ")", x.count(what), counts[what]);
        }
        due("at(0)", x.at(0), UNKNOWN);
        due("piece(0, 0)", x.piece(0, 0), 3);
        due("piece(0, 3)", x.piece(0, 3), NONE);
        due("piece(0, 5)", x.piece(0, 5), 511);
        due("piece(0, 6)", x.piece(0, 6), 1);
        due("piece(2, 0)", x.piece(2, 0), UNKNOWN);
        due("forget()", x.forget(), 0);
        due("restore()", x.restore(), STATE);
        due("fault(), the page is empty", x.fault(), 0);
        due("put(0)", x.put(0), 0);
        due("swap(0, 0)", x.swap(0, 0), 2);
        due("the same text again", reread(x, "h99,p22"), 2);
        due("count(1)", x.count(1), 0);
        due("count(5)", x.count(5), 0);
        due("count(8)", x.count(8), 3);
    }

    private static void gymIsNone() {
        sentence(5, "STATE: it is none.");
        String[] wrong = {"", "p", "p11", "p11,", "p11,f1", "p11,f12,", "x11,f12", "p11,f12x", SEVEN + ","};
        for (String text : wrong) {
            BarRoutine x = Check.withGym(FIVE, 3, 0);
            x.tryIt(3, 4, false);
            x.image();
            Check.write(x, text);
            still(x, "gym() of \"" + text + "\"", x::gym, STATE);
            due("count(7)", x.count(7), text.length());
            due("restore(): the image stays", x.restore(), 2);
        }
        BarRoutine x = Check.withPage("p11");
        due("gym() too early", x.gym(), STATE);
        Check.write(x, ",p22");
        due("gym(), the page goes on", x.gym(), 2);
    }

    // ---- promise 6

    private static void pieceNotInRoutine() {
        sentence(6, "3 its PLACE in the ROUTINE (NONE), 4 how often of ten it succeeds there (NONE: it is not in it)");
        BarRoutine x = Check.withGym(FIVE);
        due("piece(0, 3), nothing in it", x.piece(0, 3), NONE);
        due("piece(0, 4), nothing in it", x.piece(0, 4), NONE);
        x.put(4);
        x.put(0);
        due("piece(0, 3), the last", x.piece(0, 3), 1);
        due("piece(4, 3), the first", x.piece(4, 3), 0);
        x.take(0);
        due("piece(4, 3), taken", x.piece(4, 3), NONE);
        due("piece(4, 4), taken", x.piece(4, 4), NONE);
        due("piece(0, 3), nearer", x.piece(0, 3), 0);
        due("piece(0, 4)", x.piece(0, 4), 8);
        BarRoutine tired = Check.withGym("p11,p11,p11,p11,p12", 0, 1, 2, 3, 4);
        due("piece(3, 4): 0 is not NONE", tired.piece(3, 4), 0);
        due("piece(4, 4): 0 is not NONE", tired.piece(4, 4), 0);
    }

    private static void pieceRefusals() {
        sentence(6, "UNKNOWN; OUTSIDE.");
        BarRoutine x = Check.withGym("p11,f12", 1);
        for (int piece : new int[] {-1, 2, 7, LEAST, MOST}) {
            still(x, "piece(" + piece + ", 0)", () -> x.piece(piece, 0), UNKNOWN);
            still(x, "piece(" + piece + ", 7)", () -> x.piece(piece, 7), UNKNOWN);
        }
        for (int what : new int[] {-1, 7, 10, LEAST, MOST}) {
            still(x, "piece(0, " + what + ")", () -> x.piece(0, what), OUTSIDE);
            still(x, "piece(1, " + what + ")", () -> x.piece(1, what), OUTSIDE);
        }
        due("piece(1, 6), the last what", x.piece(1, 6), 1);
    }

    // ---- promise 7

    private static void asNoneSuch() {
        sentence(7, "its own number, not that of the KIND; NONE: it is none such (the cast fails).");
        // Numbers unlike those of the kinds: 0 release, 1 hold, 2 turn, 3 flight, 4 piece.
        BarRoutine x = Check.withGym("r11,h11,t11,f11,p11");
        int[][] want = {
            {0, 0, NONE, NONE, 0},
            {1, NONE, NONE, 1, NONE},
            {2, NONE, 2, NONE, NONE},
            {3, 3, NONE, NONE, NONE},
            {4, NONE, NONE, NONE, NONE},
        };
        for (int piece = 0; piece < 5; piece++) {
            for (int kind = 0; kind < 5; kind++) {
                due("as(" + piece + ", " + kind + ")", x.as(piece, kind), want[piece][kind]);
            }
        }
    }

    private static void asRefusals() {
        sentence(7, "UNKNOWN; OUTSIDE.");
        BarRoutine x = Check.withGym("p11,f12", 1);
        for (int piece : new int[] {-1, 2, LEAST, MOST}) {
            still(x, "as(" + piece + ", 0)", () -> x.as(piece, 0), UNKNOWN);
            still(x, "as(" + piece + ", 5)", () -> x.as(piece, 5), UNKNOWN);
        }
        for (int kind : new int[] {-1, 5, LEAST, MOST}) {
            still(x, "as(1, " + kind + ")", () -> x.as(1, kind), OUTSIDE);
        }
    }
}
