import java.math.BigInteger;
import java.util.ArrayList;
import java.util.List;
import java.util.regex.Matcher;
import java.util.regex.Pattern;

/**
 * What the document says, told another way than in the class: texts and lists, every outcome of a routine gone
 * through one by one, fractions of BigInteger.
 */
final class Model {
    private static final int NONE = -1;
    private static final int UNKNOWN = -101;
    private static final int OUTSIDE = -102;
    private static final int STATE = -103;
    private static final int FULL = -104;
    private static final Pattern GYM = Pattern.compile("[pfthr][1-9][1-9](,[pfthr][1-9][1-9]){1,6}");

    private record Tried(int piece, int behind, boolean succeeds) {
    }

    private record Kept(List<Integer> routine, int changes, List<Tried> tried) {
    }

    private String page = "";
    private List<String> pieces = List.of();
    private List<Integer> routine = new ArrayList<>();
    private List<Tried> tried = new ArrayList<>();
    private int changes = 0;
    private Kept kept = null;
    private int gyms = 0;
    private int bests = 0;

    int letter(int code) {
        if (code < 1 || code > 126) {
            return OUTSIDE;
        }
        if (page.length() == 30) {
            return FULL;
        }
        page += (char) code;
        return page.length();
    }

    int blank() {
        int had = page.length();
        page = "";
        return had;
    }

    int fault() {
        for (int end = 1; end <= page.length(); end++) {
            Matcher matcher = GYM.matcher(page.substring(0, end));
            if (!matcher.matches() && !matcher.hitEnd()) {
                return end - 1;
            }
        }
        return page.length();
    }

    int gym() {
        if (!GYM.matcher(page).matches()) {
            return STATE;
        }
        pieces = List.of(page.split(","));
        page = "";
        routine = new ArrayList<>();
        tried = new ArrayList<>();
        changes = 0;
        kept = null;
        gyms++;
        return pieces.size();
    }

    private boolean isPiece(int piece) {
        return piece >= 0 && piece < pieces.size();
    }

    private boolean isPlace(int place) {
        return place >= 0 && place < routine.size();
    }

    private int worth(int piece) {
        return pieces.get(piece).charAt(1) - '0';
    }

    private int sure(int piece) {
        return pieces.get(piece).charAt(2) - '0';
    }

    private boolean is(int piece, String kinds) {
        return kinds.indexOf(pieces.get(piece).charAt(0)) >= 0;
    }

    private int ofTen(int piece, int sure, int place) {
        return is(piece, "h") ? sure : sure - Math.min(sure, Math.max(place, 2) - 2);
    }

    int piece(int piece, int what) {
        if (!isPiece(piece)) {
            return UNKNOWN;
        }
        if (what < 0 || what > 6) {
            return OUTSIDE;
        }
        int place = routine.indexOf(piece);
        return switch (what) {
            case 0 -> "pfthr".indexOf(pieces.get(piece).charAt(0));
            case 1 -> worth(piece);
            case 2 -> sure(piece);
            case 3 -> place;
            case 4 -> place < 0 ? NONE : ofTen(piece, sure(piece), place);
            case 5 -> howSure(piece);
            default -> likely(piece);
        };
    }

    private BigInteger likelihood(int piece, int sure) {
        BigInteger parts = BigInteger.ONE;
        for (Tried one : tried) {
            if (one.piece == piece) {
                int of = ofTen(piece, sure, one.behind);
                parts = parts.multiply(BigInteger.valueOf(one.succeeds ? of : 10 - of));
            }
        }
        return parts;
    }

    private int howSure(int piece) {
        int bits = 0;
        for (int sure = 9; sure >= 1; sure--) {
            bits = 2 * bits + likelihood(piece, sure).signum();
        }
        return bits;
    }

    private int likely(int piece) {
        int found = 9;
        for (int sure = 8; sure >= 1; sure--) {
            if (likelihood(piece, sure).compareTo(likelihood(piece, found)) >= 0) {
                found = sure;
            }
        }
        return likelihood(piece, found).signum() == 0 ? NONE : found;
    }

    int as(int piece, int kind) {
        if (!isPiece(piece)) {
            return UNKNOWN;
        }
        if (kind < 0 || kind > 4) {
            return OUTSIDE;
        }
        String[] kinds = {"pfthr", "fr", "t", "h", "r"};
        return is(piece, kinds[kind]) ? piece : NONE;
    }

    int put(int piece) {
        if (!isPiece(piece)) {
            return UNKNOWN;
        }
        if (routine.contains(piece)) {
            return STATE;
        }
        if (routine.size() == 5) {
            return FULL;
        }
        routine.add(piece);
        changes++;
        return routine.indexOf(piece);
    }

    int take(int place) {
        if (!isPlace(place)) {
            return UNKNOWN;
        }
        changes++;
        return routine.remove(place);
    }

    int swap(int a, int b) {
        if (!isPlace(a) || !isPlace(b)) {
            return UNKNOWN;
        }
        java.util.Collections.swap(routine, a, b);
        return ++changes;
    }

    int at(int place) {
        return isPlace(place) ? routine.get(place) : UNKNOWN;
    }

    private int scoreOf(List<Integer> row, int falls) {
        int score = 0;
        boolean flight = false;
        boolean turn = false;
        int ahead = NONE;
        for (int place = 0; place < row.size(); place++) {
            int piece = row.get(place);
            flight |= is(piece, "fr");
            turn |= is(piece, "t");
            if ((falls & 1 << place) != 0) {
                score -= 10;
                ahead = NONE;
                continue;
            }
            score += worth(piece);
            if (ahead != NONE && is(ahead, "fr") && is(piece, "frt")) {
                score += is(ahead, "r") ? 3 : 2;
            }
            ahead = piece;
        }
        return score - (flight ? 0 : 5) - (turn ? 0 : 5);
    }

    int score(int falls) {
        if (falls < 0 || falls > (1 << routine.size()) - 1) {
            return OUTSIDE;
        }
        return pieces.isEmpty() ? STATE : scoreOf(routine, falls) + 200;
    }

    /** Sums over all that may fall: of what value 0 is the score and 200, else 1 for as much as needed. */
    private BigInteger sumOf(List<Integer> row, boolean scores, int needed) {
        BigInteger sum = BigInteger.ZERO;
        for (int falls = 0; falls < 1 << row.size(); falls++) {
            long parts = 1;
            for (int place = 0; place < row.size(); place++) {
                int of = ofTen(row.get(place), sure(row.get(place)), place);
                parts *= (falls & 1 << place) != 0 ? 10 - of : of;
            }
            int score = scoreOf(row, falls);
            int value = scores ? score + 200 : score >= needed ? 1 : 0;
            sum = sum.add(BigInteger.valueOf(parts * value));
        }
        return sum;
    }

    private static int lowest(BigInteger above, int places, int what) {
        BigInteger below = BigInteger.TEN.pow(places);
        BigInteger by = above.gcd(below);
        return (what == 0 ? above : below).divide(by).intValueExact();
    }

    int mean(int what) {
        if (what < 0 || what > 1) {
            return OUTSIDE;
        }
        return pieces.isEmpty() ? STATE : lowest(sumOf(routine, true, 0), routine.size(), what);
    }

    int odds(int score, int what) {
        if (score < -100 || score > 100 || what < 0 || what > 1) {
            return OUTSIDE;
        }
        return pieces.isEmpty() ? STATE : lowest(sumOf(routine, false, score), routine.size(), what);
    }

    private void addRows(List<Integer> row, int many, List<List<Integer>> rows) {
        if (row.size() == many) {
            rows.add(row);
            return;
        }
        for (int piece = 0; piece < pieces.size(); piece++) {
            if (!row.contains(piece)) {
                List<Integer> longer = new ArrayList<>(row);
                longer.add(piece);
                addRows(longer, many, rows);
            }
        }
    }

    int best(int many, int what) {
        if (many < 1 || many > 3 || !(what >= 0 && what <= 1 || what >= 10 && what <= 12)) {
            return OUTSIDE;
        }
        if (pieces.isEmpty() || bests == 30) {
            return STATE;
        }
        bests++;
        List<List<Integer>> rows = new ArrayList<>();
        addRows(List.of(), many, rows);
        if (rows.isEmpty()) {
            return NONE;
        }
        List<Integer> finest = rows.get(0);
        for (List<Integer> row : rows) {
            if (sumOf(row, true, 0).compareTo(sumOf(finest, true, 0)) > 0) {
                finest = row;
            }
        }
        if (what < 10) {
            return lowest(sumOf(finest, true, 0), many, what);
        }
        return what - 10 < many ? finest.get(what - 10) : NONE;
    }

    int more(int score) {
        if (score < -100 || score > 100) {
            return OUTSIDE;
        }
        if (pieces.isEmpty() || routine.size() == 5) {
            return STATE;
        }
        int found = NONE;
        BigInteger greatest = sumOf(routine, false, score).multiply(BigInteger.TEN);
        for (int piece = 0; piece < pieces.size(); piece++) {
            if (!routine.contains(piece)) {
                List<Integer> longer = new ArrayList<>(routine);
                longer.add(piece);
                BigInteger sum = sumOf(longer, false, score);
                if (sum.compareTo(greatest) > 0) {
                    greatest = sum;
                    found = piece;
                }
            }
        }
        return found;
    }

    int tryIt(int piece, int behind, boolean succeeds) {
        if (!isPiece(piece)) {
            return UNKNOWN;
        }
        if (behind < 0 || behind > 4) {
            return OUTSIDE;
        }
        if (tried.size() == 8) {
            return FULL;
        }
        tried.add(new Tried(piece, behind, succeeds));
        return tried.size();
    }

    int forget() {
        int had = tried.size();
        tried = new ArrayList<>();
        return had;
    }

    int meets(int times, int seed, int what) {
        if (times < 1 || times > 60 || seed < 0 || what < 0 || what > 2) {
            return OUTSIDE;
        }
        if (pieces.isEmpty()) {
            return STATE;
        }
        BigInteger now = BigInteger.valueOf(seed);
        int clean = 0;
        int all = 20000;
        for (int meet = 0; meet < times; meet++) {
            int falls = 0;
            for (int place = 0; place < routine.size(); place++) {
                now = now.multiply(BigInteger.valueOf(1103515245)).add(BigInteger.valueOf(12345));
                now = now.mod(BigInteger.TWO.pow(31));
                int draw = now.shiftRight(16).mod(BigInteger.TEN).intValue();
                int piece = routine.get(place);
                falls += draw < ofTen(piece, sure(piece), place) ? 0 : 1 << place;
            }
            clean += falls == 0 ? 1 : 0;
            all += scoreOf(routine, falls);
        }
        return what == 0 ? clean : what == 1 ? all : now.intValueExact();
    }

    int image() {
        if (pieces.isEmpty()) {
            return STATE;
        }
        kept = new Kept(List.copyOf(routine), changes, List.copyOf(tried));
        return changes;
    }

    int restore() {
        if (kept == null) {
            return STATE;
        }
        routine = new ArrayList<>(kept.routine);
        tried = new ArrayList<>(kept.tried);
        changes = kept.changes;
        return changes;
    }

    private int joins() {
        int joins = 0;
        for (int place = 1; place < routine.size(); place++) {
            joins += is(routine.get(place - 1), "fr") && is(routine.get(place), "frt") ? 1 : 0;
        }
        return joins;
    }

    private int inRoutine(String kinds) {
        int many = 0;
        for (int piece : routine) {
            many += is(piece, kinds) ? 1 : 0;
        }
        return many;
    }

    int count(int what) {
        int[] told = {pieces.size(), routine.size(), inRoutine("fr"), inRoutine("t"), joins(), changes,
            tried.size(), page.length(), gyms, bests};
        return what < 0 || what > 9 ? OUTSIDE : told[what];
    }

    long digest() {
        List<Integer> numbers = new ArrayList<>();
        for (int piece = 0; piece < pieces.size(); piece++) {
            for (int what = 0; what < 7; what++) {
                numbers.add(piece(piece, what));
            }
        }
        numbers.addAll(routine);
        if (!pieces.isEmpty()) {
            numbers.addAll(List.of(score(0), mean(0), mean(1), odds(10, 0), odds(10, 1)));
        }
        page.chars().forEach(numbers::add);
        for (int what = 0; what < 10; what++) {
            numbers.add(count(what));
        }
        BigInteger h = BigInteger.valueOf(1033);
        for (int number : numbers) {
            h = h.multiply(BigInteger.valueOf(31)).add(BigInteger.valueOf(number));
        }
        return h.longValue();
    }
}
