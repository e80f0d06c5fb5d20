/** A gym of pieces on the bars, a routine put together of them, and what it would bring. */
public final class BarRoutine {
    public static final int NONE = -1;
    public static final int UNKNOWN = -101;
    public static final int OUTSIDE = -102;
    public static final int STATE = -103;
    public static final int FULL = -104;

    private static final int PIECE = 0;
    private static final int FLIGHT = 1;
    private static final int TURN = 2;
    private static final int HOLD = 3;
    private static final int RELEASE = 4;

    private static final int PAGE_MOST = 30;
    private static final int CODE_MOST = 126;
    /** A piece takes three letters of the text, and the comma behind it one. */
    private static final int STRIDE = 4;
    private static final int PIECES_LEAST = 2;
    private static final int PIECES_MOST = 7;
    private static final int TEXT_LEAST = STRIDE * PIECES_LEAST - 1;
    private static final int TEXT_MOST = STRIDE * PIECES_MOST - 1;

    private static final int PLACES_MOST = 5;
    private static final int TRIES_MOST = 8;
    private static final int SURE_MOST = 9;
    private static final int BESTS_MOST = 30;
    private static final int BEST_PIECES_MOST = 3;
    private static final int MEETS_MOST = 60;
    private static final int SCORE_MOST = 100;

    /** Told on top of scores, so that no answer is taken for a refusal. */
    private static final int SCORE_SHIFT = 200;
    private static final int MEETS_SHIFT = 20000;
    private static final int HUNDRED = 100;

    private final Page page = new Page();
    private final Gym gym = new Gym();
    private final Routine routine = new Routine(gym);
    private final Tries tries = new Tries(gym);
    private int changes = 0;

    private boolean imageKept = false;
    private final Routine imageRoutine = new Routine(gym);
    private final Tries imageTries = new Tries(gym);
    private int imageChanges = 0;

    /** Routines that are only thought of; made once, as every object of a run is kept. */
    private final Routine trial = new Routine(gym);
    private final Routine finest = new Routine(gym);
    private int gymsRead = 0;
    private int bestsDone = 0;

    public BarRoutine() {
    }

    // ---- the gym

    public int letter(int code) {
        if (code < 1 || code > CODE_MOST) {
            return OUTSIDE;
        }
        if (page.length >= PAGE_MOST) {
            return FULL;
        }
        page.add(code);
        return page.length;
    }

    public int blank() {
        int had = page.length;
        page.length = 0;
        return had;
    }

    public int fault() {
        return page.firstFault();
    }

    public int gym() {
        if (!page.tellsGym()) {
            return STATE;
        }
        gym.read(page);
        page.length = 0;
        routine.size = 0;
        tries.size = 0;
        changes = 0;
        imageKept = false;
        gymsRead++;
        return gym.size;
    }

    public int piece(int piece, int what) {
        if (!gym.has(piece)) {
            return UNKNOWN;
        }
        switch (what) {
            case 0:
                return gym.kindOf(piece);
            case 1:
                return gym.worthOf(piece);
            case 2:
                return gym.sureOf(piece);
            case 3:
                return routine.placeOf(piece);
            case 4:
                return routine.holds(piece) ? routine.chanceAt(routine.placeOf(piece)) : NONE;
            case 5:
                return tries.possibleSures(piece);
            case 6:
                return tries.likeliestSure(piece);
            default:
                return OUTSIDE;
        }
    }

    public int as(int piece, int kind) {
        if (!gym.has(piece)) {
            return UNKNOWN;
        }
        if (kind < PIECE || kind > RELEASE) {
            return OUTSIDE;
        }
        return gym.isA(piece, kind) ? piece : NONE;
    }

    // ---- the routine

    public int put(int piece) {
        if (!gym.has(piece)) {
            return UNKNOWN;
        }
        if (routine.holds(piece)) {
            return STATE;
        }
        if (routine.size >= PLACES_MOST) {
            return FULL;
        }
        routine.append(piece);
        changes++;
        return routine.size - 1;
    }

    public int take(int place) {
        if (!routine.reaches(place)) {
            return UNKNOWN;
        }
        changes++;
        return routine.removeAt(place);
    }

    public int swap(int a, int b) {
        if (!routine.reaches(a) || !routine.reaches(b)) {
            return UNKNOWN;
        }
        routine.exchange(a, b);
        changes++;
        return changes;
    }

    public int at(int place) {
        return routine.reaches(place) ? routine.pieceAt(place) : UNKNOWN;
    }

    public int score(int falls) {
        if (falls < 0 || falls >= 1 << routine.size) {
            return OUTSIDE;
        }
        if (noGym()) {
            return STATE;
        }
        return routine.points(falls) + SCORE_SHIFT;
    }

    // ---- what would be

    public int mean(int what) {
        if (!asksAboveOrBelow(what)) {
            return OUTSIDE;
        }
        if (noGym()) {
            return STATE;
        }
        return inLowestTerms(routine.meanInHundredths(), HUNDRED, what);
    }

    public int odds(int score, int what) {
        if (!isScore(score) || !asksAboveOrBelow(what)) {
            return OUTSIDE;
        }
        if (noGym()) {
            return STATE;
        }
        return inLowestTerms(routine.partsWith(score), routine.allParts(), what);
    }

    public int best(int many, int what) {
        boolean asksPiece = what >= 10 && what < 10 + BEST_PIECES_MOST;
        if (many < 1 || many > BEST_PIECES_MOST || !asksAboveOrBelow(what) && !asksPiece) {
            return OUTSIDE;
        }
        if (noGym() || bestsDone >= BESTS_MOST) {
            return STATE;
        }
        bestsDone++;
        if (many > gym.size) {
            return NONE;
        }
        findFinest(many);
        if (asksPiece) {
            return finest.pieceAt(what - 10);
        }
        return inLowestTerms(finest.meanInHundredths(), HUNDRED, what);
    }

    public int more(int score) {
        if (!isScore(score)) {
            return OUTSIDE;
        }
        if (noGym() || routine.size >= PLACES_MOST) {
            return STATE;
        }
        int found = NONE;
        // Of one piece more there are ten times as many parts.
        int greatest = routine.partsWith(score) * 10;
        for (int piece = 0; piece < gym.size; piece++) {
            if (!routine.holds(piece)) {
                trial.copyFrom(routine);
                trial.append(piece);
                int parts = trial.partsWith(score);
                if (parts > greatest) {
                    greatest = parts;
                    found = piece;
                }
            }
        }
        return found;
    }

    // ---- what is tried

    public int tryIt(int piece, int behind, boolean succeeds) {
        if (!gym.has(piece)) {
            return UNKNOWN;
        }
        if (behind < 0 || behind >= PLACES_MOST) {
            return OUTSIDE;
        }
        if (tries.size >= TRIES_MOST) {
            return FULL;
        }
        tries.add(piece, behind, succeeds);
        return tries.size;
    }

    public int forget() {
        int had = tries.size;
        tries.size = 0;
        return had;
    }

    public int meets(int times, int seed, int what) {
        if (times < 1 || times > MEETS_MOST || seed < 0 || what < 0 || what > 2) {
            return OUTSIDE;
        }
        if (noGym()) {
            return STATE;
        }
        int clean = 0;
        int total = MEETS_SHIFT;
        int now = seed;
        for (int meet = 0; meet < times; meet++) {
            int falls = 0;
            for (int place = 0; place < routine.size; place++) {
                now = nextSeed(now);
                if (drawOfTen(now) >= routine.chanceAt(place)) {
                    falls |= 1 << place;
                }
            }
            clean += falls == 0 ? 1 : 0;
            total += routine.points(falls);
        }
        if (what == 0) {
            return clean;
        }
        return what == 1 ? total : now;
    }

    // ---- what is told of all

    public int image() {
        if (noGym()) {
            return STATE;
        }
        imageRoutine.copyFrom(routine);
        imageTries.copyFrom(tries);
        imageChanges = changes;
        imageKept = true;
        return changes;
    }

    public int restore() {
        if (!imageKept) {
            return STATE;
        }
        routine.copyFrom(imageRoutine);
        tries.copyFrom(imageTries);
        changes = imageChanges;
        return changes;
    }

    public int count(int what) {
        switch (what) {
            case 0:
                return gym.size;
            case 1:
                return routine.size;
            case 2:
                return routine.howMany(FLIGHT);
            case 3:
                return routine.howMany(TURN);
            case 4:
                return routine.joins();
            case 5:
                return changes;
            case 6:
                return tries.size;
            case 7:
                return page.length;
            case 8:
                return gymsRead;
            case 9:
                return bestsDone;
            default:
                return OUTSIDE;
        }
    }

    public long digest() {
        long h = 1033L;
        for (int piece = 0; piece < gym.size; piece++) {
            for (int what = 0; what <= 6; what++) {
                h = mixed(h, piece(piece, what));
            }
        }
        for (int place = 0; place < routine.size; place++) {
            h = mixed(h, routine.pieceAt(place));
        }
        if (!noGym()) {
            h = mixed(h, score(0));
            h = mixed(h, mean(0));
            h = mixed(h, mean(1));
            h = mixed(h, odds(10, 0));
            h = mixed(h, odds(10, 1));
        }
        for (int place = 0; place < page.length; place++) {
            h = mixed(h, page.codeAt(place));
        }
        for (int what = 0; what <= 9; what++) {
            h = mixed(h, count(what));
        }
        return h;
    }

    // ---- what several calls need

    private boolean noGym() {
        return gym.size == 0;
    }

    private static boolean isScore(int score) {
        return score >= -SCORE_MOST && score <= SCORE_MOST;
    }

    private static boolean asksAboveOrBelow(int what) {
        return what == 0 || what == 1;
    }

    private static long mixed(long h, long number) {
        return 31L * h + number;
    }

    private static int nextSeed(int seed) {
        return (int) ((1103515245L * seed + 12345L) % 2147483648L);
    }

    private static int drawOfTen(int seed) {
        return seed / 65536 % 10;
    }

    /** What stands above (what is 0) or below the line of a fraction in lowest terms. */
    private static int inLowestTerms(int above, int below, int what) {
        int divisor = commonDivisor(above, below);
        if (divisor == 0) {
            return what == 0 ? above : below;
        }
        return (what == 0 ? above : below) / divisor;
    }

    private static int commonDivisor(int a, int b) {
        int greater = a;
        int less = b;
        // Two ints are done after fewer than 50 steps.
        for (int step = 0; step < 64 && less != 0; step++) {
            int rest = greater % less;
            greater = less;
            less = rest;
        }
        return greater;
    }

    /** Leaves in finest the pick of so many pieces with the greatest mean. */
    private void findFinest(int many) {
        int picks = picksOf(many);
        // With 200 on top every mean is above 0.
        int greatest = 0;
        // Picks go up by the numbers in them, so of like ones the first one stays.
        for (int number = 0; number < picks; number++) {
            if (pickByNumber(number, many)) {
                int mean = trial.meanInHundredths();
                if (mean > greatest) {
                    greatest = mean;
                    finest.copyFrom(trial);
                }
            }
        }
    }

    /** How many picks there are of so many pieces, the same one more than once, too. */
    private int picksOf(int many) {
        int picks = 1;
        for (int i = 0; i < many; i++) {
            picks *= gym.size;
        }
        return picks;
    }

    /** Puts into trial the pieces that a number's digits name, in base of how many there are; false if two are one. */
    private boolean pickByNumber(int number, int many) {
        trial.size = 0;
        int unit = picksOf(many - 1);
        for (int i = 0; i < many; i++) {
            if (unit == 0 || gym.size == 0) {
                return false;
            }
            int piece = number / unit % gym.size;
            if (trial.holds(piece)) {
                return false;
            }
            trial.append(piece);
            unit /= gym.size;
        }
        return true;
    }

    /** How often of ten a piece succeeds behind so many others. */
    private static int chanceOf(int kind, int sure, int behind) {
        int tired = kind == HOLD ? 0 : Math.max(0, behind - 2);
        return Math.max(0, sure - tired);
    }

    /** The letters from which a gym is read. */
    private static final class Page {
        private final int[] codes = new int[PAGE_MOST];
        private int length = 0;

        void add(int code) {
            if (length < PAGE_MOST) {
                codes[length] = code;
                length++;
            }
        }

        int codeAt(int place) {
            return place >= 0 && place < length ? codes[place] : NONE;
        }

        int firstFault() {
            for (int place = 0; place < length; place++) {
                if (!fits(place, codes[place])) {
                    return place;
                }
            }
            return length;
        }

        boolean tellsGym() {
            boolean endsWithPiece = length % STRIDE == STRIDE - 1;
            return length >= TEXT_LEAST && endsWithPiece && firstFault() == length;
        }

        /** Which letters a gym may have at a place does not hang on those ahead of it. */
        private static boolean fits(int place, int code) {
            if (place >= TEXT_MOST) {
                return false;
            }
            int within = place % STRIDE;
            if (within == 0) {
                return kindByLetter(code) != NONE;
            }
            if (within == STRIDE - 1) {
                return code == ',';
            }
            return code >= '1' && code <= '9';
        }

        static int kindByLetter(int code) {
            switch (code) {
                case 'p':
                    return PIECE;
                case 'f':
                    return FLIGHT;
                case 't':
                    return TURN;
                case 'h':
                    return HOLD;
                case 'r':
                    return RELEASE;
                default:
                    return NONE;
            }
        }
    }

    /** The pieces that there are; none at first. */
    private static final class Gym {
        private final int[] kinds = new int[PIECES_MOST];
        private final int[] worths = new int[PIECES_MOST];
        private final int[] sures = new int[PIECES_MOST];
        private int size = 0;

        /** Takes a page that tells a gym. */
        void read(Page page) {
            size = 0;
            for (int start = 0; start < page.length && size < PIECES_MOST; start += STRIDE) {
                kinds[size] = Page.kindByLetter(page.codeAt(start));
                worths[size] = page.codeAt(start + 1) - '0';
                sures[size] = page.codeAt(start + 2) - '0';
                size++;
            }
        }

        boolean has(int piece) {
            return piece >= 0 && piece < size;
        }

        int kindOf(int piece) {
            return has(piece) ? kinds[piece] : NONE;
        }

        int worthOf(int piece) {
            return has(piece) ? worths[piece] : 0;
        }

        int sureOf(int piece) {
            return has(piece) ? sures[piece] : 0;
        }

        boolean isA(int piece, int kind) {
            if (!has(piece)) {
                return false;
            }
            int own = kinds[piece];
            return kind == PIECE || kind == own || kind == FLIGHT && own == RELEASE;
        }
    }

    /** A row of unlike pieces of a gym. */
    private static final class Routine {
        private final Gym gym;
        private final int[] pieces = new int[PLACES_MOST];
        private int size = 0;

        Routine(Gym gym) {
            this.gym = gym;
        }

        boolean reaches(int place) {
            return place >= 0 && place < size;
        }

        int pieceAt(int place) {
            return reaches(place) ? pieces[place] : NONE;
        }

        int placeOf(int piece) {
            for (int place = 0; place < size; place++) {
                if (pieces[place] == piece) {
                    return place;
                }
            }
            return NONE;
        }

        boolean holds(int piece) {
            return placeOf(piece) != NONE;
        }

        void append(int piece) {
            if (size < PLACES_MOST) {
                pieces[size] = piece;
                size++;
            }
        }

        int removeAt(int place) {
            if (!reaches(place)) {
                return NONE;
            }
            int gone = pieces[place];
            for (int next = place + 1; next < size; next++) {
                pieces[next - 1] = pieces[next];
            }
            size--;
            return gone;
        }

        void exchange(int a, int b) {
            if (reaches(a) && reaches(b)) {
                int kept = pieces[a];
                pieces[a] = pieces[b];
                pieces[b] = kept;
            }
        }

        void copyFrom(Routine other) {
            size = other.size;
            for (int place = 0; place < size; place++) {
                pieces[place] = other.pieces[place];
            }
        }

        int howMany(int kind) {
            int many = 0;
            for (int place = 0; place < size; place++) {
                many += gym.isA(pieces[place], kind) ? 1 : 0;
            }
            return many;
        }

        int joins() {
            int many = 0;
            for (int place = 0; place < size; place++) {
                many += joinWorth(place) > 0 ? 1 : 0;
            }
            return many;
        }

        /** What a place joined to the next one gives if both succeed; 0 if they are no join. */
        private int joinWorth(int place) {
            int first = pieceAt(place);
            int second = pieceAt(place + 1);
            if (!gym.isA(first, FLIGHT) || !gym.isA(second, FLIGHT) && !gym.isA(second, TURN)) {
                return 0;
            }
            return gym.isA(first, RELEASE) ? 3 : 2;
        }

        private int lackingPenalty() {
            return (howMany(FLIGHT) == 0 ? 5 : 0) + (howMany(TURN) == 0 ? 5 : 0);
        }

        int chanceAt(int place) {
            int piece = pieceAt(place);
            return chanceOf(gym.kindOf(piece), gym.sureOf(piece), place);
        }

        /** The score with falls at just these places (as bits). */
        int points(int falls) {
            return gained(falls) - lackingPenalty();
        }

        /** The score but for what is lacking, which no fall changes. */
        private int gained(int falls) {
            int sum = 0;
            for (int place = 0; place < size; place++) {
                if ((falls >> place & 1) != 0) {
                    sum -= 10;
                } else {
                    sum += gym.worthOf(pieces[place]);
                }
                if ((falls >> place & 3) == 0) {
                    sum += joinWorth(place);
                }
            }
            return sum;
        }

        /**
         * The mean of the score, and 200, in hundredths. It is what each piece and each join brings in the
         * mean, added up; a join hangs on two chances of ten, so hundredths tell it exactly.
         */
        int meanInHundredths() {
            int sum = HUNDRED * (SCORE_SHIFT - lackingPenalty());
            for (int place = 0; place < size; place++) {
                int chance = chanceAt(place);
                sum += 10 * (chance * gym.worthOf(pieces[place]) - 10 * (10 - chance));
                sum += chance * chanceAt(place + 1) * joinWorth(place);
            }
            return sum;
        }

        /** Of how many like parts the odds are told: ten for each place. */
        int allParts() {
            int parts = 1;
            for (int place = 0; place < size; place++) {
                parts *= 10;
            }
            return parts;
        }

        /** In how many of all parts there is so much score, or more. */
        int partsWith(int score) {
            int parts = 0;
            int needed = score + lackingPenalty();
            for (int falls = 0; falls < 1 << size; falls++) {
                if (gained(falls) >= needed) {
                    parts += partsOf(falls);
                }
            }
            return parts;
        }

        private int partsOf(int falls) {
            int parts = 1;
            for (int place = 0; place < size; place++) {
                int chance = chanceAt(place);
                parts *= (falls >> place & 1) != 0 ? 10 - chance : chance;
            }
            return parts;
        }
    }

    /** What was tried of pieces of which it is not known how sure they are. */
    private static final class Tries {
        private final Gym gym;
        private final int[] pieces = new int[TRIES_MOST];
        private final int[] behinds = new int[TRIES_MOST];
        private final boolean[] successes = new boolean[TRIES_MOST];
        private int size = 0;

        Tries(Gym gym) {
            this.gym = gym;
        }

        void add(int piece, int behind, boolean succeeds) {
            if (size < TRIES_MOST) {
                pieces[size] = piece;
                behinds[size] = behind;
                successes[size] = succeeds;
                size++;
            }
        }

        void copyFrom(Tries other) {
            size = other.size;
            for (int i = 0; i < size; i++) {
                pieces[i] = other.pieces[i];
                behinds[i] = other.behinds[i];
                successes[i] = other.successes[i];
            }
        }

        /** How sure a piece can be, as bits: 1 for 1, 2 for 2, 4 for 3. */
        int possibleSures(int piece) {
            int bits = 0;
            for (int sure = 1; sure <= SURE_MOST; sure++) {
                bits |= likelihood(piece, sure) > 0 ? 1 << (sure - 1) : 0;
            }
            return bits;
        }

        int likeliestSure(int piece) {
            int found = NONE;
            int greatest = 0;
            for (int sure = 1; sure <= SURE_MOST; sure++) {
                int likelihood = likelihood(piece, sure);
                if (likelihood > greatest) {
                    greatest = likelihood;
                    found = sure;
                }
            }
            return found;
        }

        /** How likely all that is tried of a piece is, ten parts a try: eight tries stay within an int. */
        private int likelihood(int piece, int sure) {
            int parts = 1;
            for (int i = 0; i < size; i++) {
                if (pieces[i] == piece) {
                    int chance = chanceOf(gym.kindOf(piece), sure, behinds[i]);
                    parts *= successes[i] ? chance : 10 - chance;
                }
            }
            return parts;
        }
    }
}
