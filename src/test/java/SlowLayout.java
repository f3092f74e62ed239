import java.util.ArrayList;
import java.util.HashSet;
import java.util.List;
import java.util.Set;

/**
 * The document told a second time, as plainly as can be and without regard for speed: everything that
 * follows from what was put in is found anew for each question.
 */
final class SlowLayout {
    private static final long NOTHING = 1L << 40;

    private static final class Part {
        int output;
        long alignment;
    }

    private static final class Piece {
        int sort;
        int part;
        int label = -1;
        long constant;
        boolean two;
        long n;
        long multiple;
        long size;
    }

    /** Where all is at one moment; a piece or part that is gone has no place. */
    private static final class Places {
        final long[] outputBegin = new long[4];
        final long[] outputEnd = new long[4];
        final Long[] partBegin = new Long[32];
        final Long[] partEnd = new Long[32];
        final Long[] pieceBegin = new Long[256];
        final Long[] pieceEnd = new Long[256];
        final boolean[] isShort = new boolean[256];
    }

    private final List<Part> parts = new ArrayList<>();
    private final List<Piece> pieces = new ArrayList<>();
    private final List<long[]> labels = new ArrayList<>();
    private final Set<Integer> gone = new HashSet<>();
    private final Set<Integer> roots = new HashSet<>();
    private final Set<Integer> fixed = new HashSet<>();
    private final long[] outputAlignment = {1, 1, 1, 1};
    private long base = 0;

    int part(int output, int power) {
        if (parts.size() == 32 || output < 0 || output > 3 || power < 0 || power > 12) {
            return -1;
        }
        Part made = new Part();
        made.output = output;
        made.alignment = (long) Math.pow(2, power);
        parts.add(made);
        return parts.size() - 1;
    }

    int plain(int part, int n) {
        if (pieces.size() == 256 || !has(parts, part) || n < 0 || n > 4194304) {
            return -1;
        }
        Piece made = new Piece();
        made.n = n;
        made.size = n;
        return add(made, 0, part);
    }

    int aimed(int sort, int part, int label, int constant, boolean two) {
        if (pieces.size() == 256 || !has(parts, part) || !has(labels, label)) {
            return -1;
        }
        Piece made = new Piece();
        made.label = label;
        made.constant = constant;
        made.two = two;
        made.size = greatest(sort);
        return add(made, sort, part);
    }

    int fill(int part, int power, int n) {
        if (pieces.size() == 256 || !has(parts, part) || power < 0 || power > 12 || n < 0 || n > 4096) {
            return -1;
        }
        Piece made = new Piece();
        made.n = n;
        made.multiple = (long) Math.pow(2, power);
        return add(made, 4, part);
    }

    int label() {
        if (labels.size() == 64) {
            return -1;
        }
        labels.add(null);
        return labels.size() - 1;
    }

    boolean put(int label, int piece, int at) {
        if (!has(labels, label) || !has(pieces, piece) || at < 0) {
            return false;
        }
        Piece target = pieces.get(piece);
        if (at > (target.sort == 0 ? target.n : 1)) {
            return false;
        }
        labels.set(label, new long[] {piece, at});
        return true;
    }

    boolean base(int b) {
        if (b < 0 || b > 1048576) {
            return false;
        }
        base = b;
        return true;
    }

    boolean align(int output, int power) {
        if (output < 0 || output > 3 || power < 0 || power > 12) {
            return false;
        }
        outputAlignment[output] = (long) Math.pow(2, power);
        return true;
    }

    boolean root(int part, boolean on) {
        return has(parts, part) && (on ? roots.add(part) : roots.remove(part));
    }

    int sweep() {
        Set<Integer> there = new HashSet<>(roots);
        List<Integer> toFollow = new ArrayList<>(roots);
        while (!toFollow.isEmpty()) {
            int from = toFollow.remove(toFollow.size() - 1);
            for (Piece piece : pieces) {
                if (piece.part == from && piece.label >= 0 && labels.get(piece.label) != null) {
                    int to = pieces.get((int) labels.get(piece.label)[0]).part;
                    if (there.add(to)) {
                        toFollow.add(to);
                    }
                }
            }
        }
        gone.clear();
        for (int i = 0; i < parts.size(); i++) {
            if (!there.contains(i)) {
                gone.add(i);
            }
        }
        return gone.size();
    }

    void back() {
        gone.clear();
    }

    int pass() {
        Places now = places();
        long[] sizes = new long[pieces.size()];
        int smaller = 0;
        for (int i = 0; i < sizes.length; i++) {
            sizes[i] = pieces.get(i).size;
            if (isThere(i) && isAimed(i) && !fixed.contains(i) && least(i, now) < sizes[i]) {
                sizes[i] = least(i, now);
                smaller++;
            }
        }
        takeSizes(sizes);
        return smaller;
    }

    int shrink() {
        int passes = 1;
        while (pass() > 0) {
            passes++;
        }
        return passes;
    }

    int settle() {
        int before = fixed.size();
        shrink();
        while (holds() >= 0) {
            Places now = places();
            long[] sizes = new long[pieces.size()];
            for (int i = 0; i < sizes.length; i++) {
                sizes[i] = pieces.get(i).size;
                if (isThere(i) && !holds(i, now)) {
                    sizes[i] = greatest(pieces.get(i).sort);
                    fixed.add(i);
                }
            }
            takeSizes(sizes);
            shrink();
        }
        return fixed.size() - before;
    }

    void reset() {
        for (Piece piece : pieces) {
            if (piece.label >= 0) {
                piece.size = greatest(piece.sort);
            }
        }
        fixed.clear();
    }

    int holds() {
        Places now = places();
        for (int i = 0; i < pieces.size(); i++) {
            if (isThere(i) && !holds(i, now)) {
                return i;
            }
        }
        return -1;
    }

    int lacks() {
        Places now = places();
        for (int i = 0; i < pieces.size(); i++) {
            if (now.isShort[i]) {
                return i;
            }
        }
        return -1;
    }

    int piece(int piece, int what) {
        if (!has(pieces, piece) || what < 0 || what > 5) {
            return -1;
        }
        Places now = places();
        if (!isThere(piece) && what >= 2 && what <= 4) {
            return -1;
        }
        long[] answers = {pieces.get(piece).sort, pieces.get(piece).part, 0, 0, 0, fixed.contains(piece) ? 1 : 0};
        if (isThere(piece)) {
            answers[2] = now.pieceEnd[piece] - now.pieceBegin[piece];
            answers[3] = now.pieceBegin[piece];
            answers[4] = isAimed(piece) ? least(piece, now) : answers[2];
        }
        return Math.toIntExact(answers[what]);
    }

    long aim(int piece) {
        return has(pieces, piece) ? aim(piece, places()) : NOTHING;
    }

    int value(int label) {
        Long value = has(labels, label) ? value(label, places()) : null;
        return value == null ? -1 : Math.toIntExact(value);
    }

    int span(int part, int what) {
        if (!has(parts, part) || what < 0 || what > 4) {
            return -1;
        }
        if (what == 1 || what == 2) {
            Long place = what == 1 ? places().partBegin[part] : places().partEnd[part];
            return place == null ? -1 : Math.toIntExact(place);
        }
        return what == 0 ? parts.get(part).output : (what == 3 ? gone : roots).contains(part) ? 1 : 0;
    }

    int output(int output, int what) {
        if (output < 0 || output > 3 || what < 0 || what > 1) {
            return -1;
        }
        return Math.toIntExact(what == 0 ? places().outputBegin[output] : places().outputEnd[output]);
    }

    int saved() {
        long greatest = 0;
        long sizes = 0;
        for (int i = 0; i < pieces.size(); i++) {
            if (isAimed(i) && isThere(i)) {
                greatest += greatest(pieces.get(i).sort);
                sizes += pieces.get(i).size;
            }
        }
        return Math.toIntExact(greatest - sizes);
    }

    private int add(Piece piece, int sort, int part) {
        piece.sort = sort;
        piece.part = part;
        pieces.add(piece);
        return pieces.size() - 1;
    }

    private void takeSizes(long[] sizes) {
        for (int i = 0; i < sizes.length; i++) {
            pieces.get(i).size = sizes[i];
        }
    }

    private static boolean has(List<?> list, int number) {
        return number >= 0 && number < list.size();
    }

    private boolean isThere(int piece) {
        return !gone.contains(pieces.get(piece).part);
    }

    private boolean isAimed(int piece) {
        return pieces.get(piece).label >= 0;
    }

    private static long greatest(int sort) {
        return sort == 1 ? 8 : 4;
    }

    private static long multipleFrom(long place, long multiple) {
        return (place + multiple - 1) / multiple * multiple;
    }

    private Places places() {
        Places now = new Places();
        long at = base;
        for (int output = 0; output < 4; output++) {
            at = multipleFrom(at, outputAlignment[output]);
            now.outputBegin[output] = at;
            for (int part = 0; part < parts.size(); part++) {
                if (parts.get(part).output == output && !gone.contains(part)) {
                    at = multipleFrom(at, parts.get(part).alignment);
                    now.partBegin[part] = at;
                    at = placePieces(part, at, now);
                    now.partEnd[part] = at;
                }
            }
            now.outputEnd[output] = at;
        }
        return now;
    }

    private long placePieces(int part, long from, Places now) {
        long at = from;
        for (int i = 0; i < pieces.size(); i++) {
            Piece piece = pieces.get(i);
            if (piece.part == part) {
                now.pieceBegin[i] = at;
                if (piece.sort == 4) {
                    long lack = multipleFrom(at, piece.multiple) - at;
                    now.isShort[i] = lack > piece.n;
                    at += now.isShort[i] ? piece.n : lack;
                } else {
                    at += piece.size;
                }
                now.pieceEnd[i] = at;
            }
        }
        return at;
    }

    private Long value(int label, Places now) {
        long[] put = labels.get(label);
        if (put == null || !isThere((int) put[0])) {
            return null;
        }
        int piece = (int) put[0];
        if (pieces.get(piece).sort == 0) {
            return now.pieceBegin[piece] + put[1];
        }
        return put[1] == 0 ? now.pieceBegin[piece] : now.pieceEnd[piece];
    }

    private long aim(int piece, Places now) {
        Long value = isAimed(piece) ? value(pieces.get(piece).label, now) : null;
        return value == null ? NOTHING : value + pieces.get(piece).constant;
    }

    private boolean holds(int piece, Places now) {
        return !isAimed(piece) || pieces.get(piece).size >= least(piece, now);
    }

    private long least(int piece, Places now) {
        Piece asked = pieces.get(piece);
        long aim = aim(piece, now);
        if (aim == NOTHING) {
            return greatest(asked.sort);
        }
        if (asked.sort == 1) {
            long d = aim - now.pieceBegin[piece];
            if (d % 2 != 0) {
                return 8;
            }
            if (asked.two && -2048 <= d && d <= 2046) {
                return 2;
            }
            return -1048576 <= d && d <= 1048574 ? 4 : 8;
        }
        long byGp = aim - (now.outputBegin[2] + 2048);
        if (-2048 <= aim && aim <= 2047 || -2048 <= byGp && byGp <= 2047) {
            return 0;
        }
        double page = Math.floor((aim + 2048) / 4096.0);
        return asked.sort == 2 && asked.two && page >= 1 && page <= 31 ? 2 : 4;
    }
}
