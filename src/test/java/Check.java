/** Counts the answers that are due and prints those that are not. */
final class Check {
    private static int right = 0;
    private static int wrong = 0;
    private static String part = "";

    private Check() {
    }

    static void part(String name) {
        part = name;
    }

    static void due(String call, long got, long want) {
        if (got == want) {
            right++;
        } else {
            wrong++;
            System.out.println(part + ": " + call + " answered " + got + ", due is " + want);
        }
    }

    static void holds(String what, boolean holds) {
        due(what, holds ? 1 : 0, 1);
    }

    /** Prints how many checks there were and ends the machine with 1 if one was not as due. */
    static void close(String name) {
        System.out.println(name + ": " + right + " checks as due, " + wrong + " not");
        if (wrong != 0 || right == 0) {
            System.exit(1);
        }
    }

    static BarRoutine withPage(String text) {
        BarRoutine bar = new BarRoutine();
        write(bar, text);
        return bar;
    }

    static void write(BarRoutine bar, String text) {
        for (int i = 0; i < text.length(); i++) {
            bar.letter(text.charAt(i));
        }
    }

    /** A new object that has read this text as its gym, with these pieces in the routine. */
    static BarRoutine withGym(String text, int... pieces) {
        BarRoutine bar = withPage(text);
        if (bar.gym() < 0) {
            throw new IllegalStateException("no gym: " + text);
        }
        for (int piece : pieces) {
            if (bar.put(piece) < 0) {
                throw new IllegalStateException("not put: " + piece);
            }
        }
        return bar;
    }
}
