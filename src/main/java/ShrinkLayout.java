/**
 * Lays out code in outputs, parts and pieces, and makes it smaller: calls and loads become
 * shorter as what they aim at comes nearer, and parts that nothing leads to go.
 */
public final class ShrinkLayout {
    public static final int NONE = -1;
    public static final long NOTHING = 1L << 40;

    private static final int MOST_PARTS = 32;
    private static final int MOST_PIECES = 256;
    private static final int MOST_LABELS = 64;
    private static final int OUTPUTS = 4;
    private static final int MOST_POWER = 12;
    private static final int MOST_BASE = 1_048_576;
    private static final int MOST_PLAIN_BYTES = 4_194_304;
    private static final int MOST_FILL_BYTES = 4096;

    private static final int PLAIN = 0;
    private static final int CALL = 1;
    private static final int UPPER = 2;
    private static final int NEAR = 3;
    private static final int FILL = 4;

    private static final int GREATEST_CALL = 8;
    private static final int GREATEST_LOAD = 4;
    private static final int GP_OUTPUT = 2;
    private static final int GP_OFFSET = 2048;

    /** A piece becomes smaller twice at most, so no run needs more passes than this. */
    private static final int MOST_PASSES = 2 * MOST_PIECES + 1;

    private final Part[] parts;
    private final Piece[] pieces;
    private final Label[] labels;
    private final int[] outputPower;
    private final int[] outputBegin;
    private final int[] outputEnd;
    private int partCount;
    private int pieceCount;
    private int labelCount;
    private int baseAt;

    public ShrinkLayout() {
        parts = new Part[MOST_PARTS];
        pieces = new Piece[MOST_PIECES];
        labels = new Label[MOST_LABELS];
        outputPower = new int[OUTPUTS];
        outputBegin = new int[OUTPUTS];
        outputEnd = new int[OUTPUTS];
    }

    public int part(int output, int power) {
        if (partCount >= parts.length || !isOutput(output) || !isPower(power)) {
            return NONE;
        }
        parts[partCount] = new Part(partCount, output, power);
        partCount++;
        return partCount - 1;
    }

    public int plain(int part, int n) {
        Part home = partAt(part);
        if (home == null || !isWithin(n, 0, MOST_PLAIN_BYTES)) {
            return NONE;
        }
        return addPiece(new Piece(PLAIN, home, 0, n));
    }

    public int call(int part, int label, int constant, boolean two) {
        return addAimed(CALL, part, label, constant, two);
    }

    public int upper(int part, int label, int constant, boolean two) {
        return addAimed(UPPER, part, label, constant, two);
    }

    public int near(int part, int label, int constant) {
        return addAimed(NEAR, part, label, constant, false);
    }

    public int fill(int part, int power, int n) {
        Part home = partAt(part);
        if (home == null || !isPower(power) || !isWithin(n, 0, MOST_FILL_BYTES)) {
            return NONE;
        }
        return addPiece(new Piece(FILL, home, power, n));
    }

    public int label() {
        if (labelCount >= labels.length) {
            return NONE;
        }
        labels[labelCount] = new Label();
        labelCount++;
        return labelCount - 1;
    }

    public boolean put(int label, int piece, int at) {
        Label moved = labelAt(label);
        Piece target = pieceAt(piece);
        if (moved == null || target == null) {
            return false;
        }
        int most = target.sort == PLAIN ? target.bytes : 1;
        if (!isWithin(at, 0, most)) {
            return false;
        }
        moved.target = target;
        moved.at = at;
        return true;
    }

    public boolean base(int b) {
        if (!isWithin(b, 0, MOST_BASE)) {
            return false;
        }
        baseAt = b;
        return true;
    }

    public boolean align(int output, int power) {
        if (!isOutput(output) || !isPower(power)) {
            return false;
        }
        outputPower[output] = power;
        return true;
    }

    public boolean root(int part, boolean on) {
        Part asked = partAt(part);
        if (asked == null || asked.root == on) {
            return false;
        }
        asked.root = on;
        return true;
    }

    public int sweep() {
        for (Part part : parts) {
            if (part == null) {
                break;
            }
            part.gone = !part.root;
        }
        // Every round but the last brings at least one part back.
        for (int round = 0; round < MOST_PARTS; round++) {
            if (!bringWhatIsLedTo()) {
                break;
            }
        }
        return countGone();
    }

    public void back() {
        for (Part part : parts) {
            if (part == null) {
                break;
            }
            part.gone = false;
        }
    }

    public int pass() {
        return makePass();
    }

    public int shrink() {
        return makePasses();
    }

    public int settle() {
        int fixed = 0;
        // Every round but the last fixes at least one piece, and a fixed one always holds.
        for (int round = 0; round <= MOST_PIECES; round++) {
            makePasses();
            int more = fixWhatDoesNotHold();
            if (more == 0) {
                break;
            }
            fixed += more;
        }
        return fixed;
    }

    public void reset() {
        for (Piece piece : pieces) {
            if (piece == null) {
                break;
            }
            if (piece.label != null) {
                piece.size = piece.greatest;
                piece.fixed = false;
            }
        }
    }

    public int holds() {
        survey();
        for (int i = 0; i < pieces.length; i++) {
            Piece piece = pieces[i];
            if (piece == null) {
                break;
            }
            if (!piece.part.gone && piece.size < piece.least) {
                return i;
            }
        }
        return NONE;
    }

    public int lacks() {
        survey();
        for (int i = 0; i < pieces.length; i++) {
            Piece piece = pieces[i];
            if (piece == null) {
                break;
            }
            if (piece.sort == FILL && !piece.part.gone
                    && bytesToMultiple(piece.place, piece.power) > piece.bytes) {
                return i;
            }
        }
        return NONE;
    }

    public int piece(int piece, int what) {
        Piece asked = pieceAt(piece);
        if (asked == null) {
            return NONE;
        }
        survey();
        boolean gone = asked.part.gone;
        switch (what) {
            case 0:
                return asked.sort;
            case 1:
                return asked.part.number;
            case 2:
                return gone ? NONE : asked.size;
            case 3:
                return gone ? NONE : asked.place;
            case 4:
                return gone ? NONE : asked.least;
            case 5:
                return asked.fixed ? 1 : 0;
            default:
                return NONE;
        }
    }

    public long aim(int piece) {
        Piece asked = pieceAt(piece);
        if (asked == null) {
            return NOTHING;
        }
        survey();
        return aimOf(asked);
    }

    public int value(int label) {
        Label asked = labelAt(label);
        if (asked == null) {
            return NONE;
        }
        survey();
        return valueOf(asked);
    }

    public int span(int part, int what) {
        Part asked = partAt(part);
        if (asked == null) {
            return NONE;
        }
        survey();
        switch (what) {
            case 0:
                return asked.output;
            case 1:
                return asked.gone ? NONE : asked.begin;
            case 2:
                return asked.gone ? NONE : asked.end;
            case 3:
                return asked.gone ? 1 : 0;
            case 4:
                return asked.root ? 1 : 0;
            default:
                return NONE;
        }
    }

    public int output(int output, int what) {
        if (!isOutput(output)) {
            return NONE;
        }
        survey();
        switch (what) {
            case 0:
                return outputBegin[output];
            case 1:
                return outputEnd[output];
            default:
                return NONE;
        }
    }

    public int saved() {
        int bytes = 0;
        for (Piece piece : pieces) {
            if (piece == null) {
                break;
            }
            if (piece.label != null && !piece.part.gone) {
                bytes += piece.greatest - piece.size;
            }
        }
        return bytes;
    }

    private int addAimed(int sort, int part, int label, int constant, boolean two) {
        Part home = partAt(part);
        Label goal = labelAt(label);
        if (home == null || goal == null) {
            return NONE;
        }
        return addPiece(new Piece(sort, home, goal, constant, two));
    }

    private int addPiece(Piece piece) {
        if (pieceCount >= pieces.length) {
            return NONE;
        }
        pieces[pieceCount] = piece;
        piece.part.append(piece);
        pieceCount++;
        return pieceCount - 1;
    }

    private Part partAt(int number) {
        return number >= 0 && number < parts.length ? parts[number] : null;
    }

    private Piece pieceAt(int number) {
        return number >= 0 && number < pieces.length ? pieces[number] : null;
    }

    private Label labelAt(int number) {
        return number >= 0 && number < labels.length ? labels[number] : null;
    }

    private boolean bringWhatIsLedTo() {
        boolean brought = false;
        for (Piece piece : pieces) {
            if (piece == null) {
                break;
            }
            Part led = partLedTo(piece);
            if (led != null && led.gone && !piece.part.gone) {
                led.gone = false;
                brought = true;
            }
        }
        return brought;
    }

    private static Part partLedTo(Piece piece) {
        if (piece.label == null || piece.label.target == null) {
            return null;
        }
        return piece.label.target.part;
    }

    private int countGone() {
        int gone = 0;
        for (Part part : parts) {
            if (part == null) {
                break;
            }
            if (part.gone) {
                gone++;
            }
        }
        return gone;
    }

    private int makePasses() {
        int made = 0;
        int changed = 1;
        while (changed > 0 && made < MOST_PASSES) {
            changed = makePass();
            made++;
        }
        return made;
    }

    private int makePass() {
        survey();
        int changed = 0;
        for (Piece piece : pieces) {
            if (piece == null) {
                break;
            }
            if (!piece.fixed && !piece.part.gone && piece.least < piece.size) {
                piece.size = piece.least;
                changed++;
            }
        }
        return changed;
    }

    private int fixWhatDoesNotHold() {
        survey();
        int fixed = 0;
        for (Piece piece : pieces) {
            if (piece == null) {
                break;
            }
            if (!piece.part.gone && piece.size < piece.least) {
                piece.size = piece.greatest;
                piece.fixed = true;
                fixed++;
            }
        }
        return fixed;
    }

    /**
     * Finds all places first and all least sizes after them: a label at a piece's end moves
     * with the piece's size, so no size may change while least sizes are still being found.
     */
    private void survey() {
        int end = baseAt;
        for (int output = 0; output < OUTPUTS; output++) {
            end = placeOutput(output, end);
        }
        for (Piece piece : pieces) {
            if (piece == null) {
                break;
            }
            if (!piece.part.gone) {
                piece.least = leastSize(piece);
            }
        }
    }

    private int placeOutput(int output, int from) {
        int end = from + bytesToMultiple(from, outputPower[output]);
        outputBegin[output] = end;
        for (Part part : parts) {
            if (part == null) {
                break;
            }
            if (part.output == output && !part.gone) {
                end = placePart(part, end);
            }
        }
        outputEnd[output] = end;
        return end;
    }

    private static int placePart(Part part, int from) {
        int place = from + bytesToMultiple(from, part.power);
        part.begin = place;
        for (Piece piece = part.first; piece != null; piece = piece.next) {
            piece.place = place;
            if (piece.sort == FILL) {
                piece.size = Math.min(bytesToMultiple(place, piece.power), piece.bytes);
            }
            place += piece.size;
        }
        part.end = place;
        return place;
    }

    private static int bytesToMultiple(int place, int power) {
        return -place & ((1 << power) - 1);
    }

    private int leastSize(Piece piece) {
        if (piece.label == null) {
            return piece.size;
        }
        long aim = aimOf(piece);
        if (aim == NOTHING) {
            return piece.greatest;
        }
        if (piece.sort == CALL) {
            return leastCall(aim - piece.place, piece.two);
        }
        return leastLoad(aim, outputBegin[GP_OUTPUT] + GP_OFFSET, piece.two);
    }

    private static int leastCall(long distance, boolean two) {
        boolean even = (distance & 1) == 0;
        if (two && even && isWithin(distance, -2048, 2046)) {
            return 2;
        }
        return even && isWithin(distance, -1_048_576, 1_048_574) ? 4 : GREATEST_CALL;
    }

    private static int leastLoad(long aim, long gp, boolean two) {
        if (isWithin(aim, -2048, 2047) || isWithin(aim - gp, -2048, 2047)) {
            return 0;
        }
        return two && isWithin(Math.floorDiv(aim + 2048, 4096L), 1, 31) ? 2 : GREATEST_LOAD;
    }

    private static long aimOf(Piece piece) {
        if (piece.label == null) {
            return NOTHING;
        }
        int value = valueOf(piece.label);
        return value == NONE ? NOTHING : (long) value + piece.constant;
    }

    private static int valueOf(Label label) {
        Piece target = label.target;
        if (target == null || target.part.gone) {
            return NONE;
        }
        if (target.sort == PLAIN) {
            return target.place + label.at;
        }
        return label.at == 0 ? target.place : target.place + target.size;
    }

    private static boolean isOutput(int output) {
        return isWithin(output, 0, OUTPUTS - 1);
    }

    private static boolean isPower(int power) {
        return isWithin(power, 0, MOST_POWER);
    }

    private static boolean isWithin(long number, long low, long high) {
        return number >= low && number <= high;
    }

    private static final class Part {
        final int number;
        final int output;
        final int power;
        boolean gone;
        boolean root;
        int begin;
        int end;
        Piece first;
        Piece last;

        Part(int number, int output, int power) {
            this.number = number;
            this.output = output;
            this.power = power;
        }

        void append(Piece piece) {
            if (last == null) {
                first = piece;
            } else {
                last.next = piece;
            }
            last = piece;
        }
    }

    private static final class Piece {
        final int sort;
        final Part part;
        /** Null for a PLAIN and a FILL, and for these alone. */
        final Label label;
        final int constant;
        final boolean two;
        final int power;
        final int bytes;
        final int greatest;
        int size;
        int place;
        int least;
        boolean fixed;
        Piece next;

        Piece(int sort, Part part, int power, int bytes) {
            this.sort = sort;
            this.part = part;
            this.label = null;
            this.constant = 0;
            this.two = false;
            this.power = power;
            this.bytes = bytes;
            this.greatest = bytes;
            this.size = bytes;
        }

        Piece(int sort, Part part, Label label, int constant, boolean two) {
            this.sort = sort;
            this.part = part;
            this.label = label;
            this.constant = constant;
            this.two = two;
            this.power = 0;
            this.bytes = 0;
            this.greatest = sort == CALL ? GREATEST_CALL : GREATEST_LOAD;
            this.size = greatest;
        }
    }

    private static final class Label {
        Piece target;
        int at;
    }
}
