import java.util.function.IntSupplier;

/** What the tests of the document's boundary sentences share: one method of theirs is one sentence. */
abstract class Edges {
    static final int NONE = -1;
    static final int UNKNOWN = -101;
    static final int OUTSIDE = -102;
    static final int STATE = -103;
    static final int FULL = -104;
    static final int LEAST = Integer.MIN_VALUE;
    static final int MOST = Integer.MAX_VALUE;

    /** 0 a flight, 1 a turn, 2 a release, 3 a hold, 4 a plain piece. */
    static final String FIVE = "f38,t27,r54,h46,p91";
    /** As much as a gym can hold. */
    static final String SEVEN = "p11,f12,t13,h14,r15,p96,f97";

    /** The sentence whose test begins, in the document's words. */
    static void sentence(int promise, String words) {
        Check.part("promise " + promise + ", \"" + words + "\"");
    }

    /** One case of a sentence. */
    static void sentence(int promise, String words, String when) {
        Check.part("promise " + promise + ", \"" + words + "\", " + when);
    }

    /** A sentence of the terms. */
    static void term(String words) {
        Check.part("terms, \"" + words + "\"");
    }

    static void due(String call, long got, long want) {
        Check.due(call, got, want);
    }

    /** A call that must answer so and change nothing that digest() tells. */
    static void still(BarRoutine x, String call, IntSupplier asked, int want) {
        long before = x.digest();
        due(call, asked.getAsInt(), want);
        due("digest() behind " + call, x.digest(), before);
    }

    /** Reads this text as another gym of the same object. */
    static int reread(BarRoutine x, String text) {
        x.blank();
        Check.write(x, text);
        return x.gym();
    }

    /** By the document's words, from one number after another. */
    static long hashOf(long... numbers) {
        long h = 1033;
        for (long number : numbers) {
            h = 31 * h + number;
        }
        return h;
    }
}
