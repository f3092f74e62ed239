import java.util.Random;

/** Drawn runs of calls, the same ones every time, answered by ShrinkLayout and by SlowLayout. */
public final class ModelTest {
    private static final int RUNS = 4000;
    private static final int MOST_CALLS = 512;
    private static final int[] ODD_NUMBERS = {
        -1, 4, 5, 6, 13, 32, 64, 256, 4097, 1048577, 4194305, Integer.MIN_VALUE, Integer.MAX_VALUE};
    private static final int[] PLAIN_SIZES = {0, 1, 2, 3, 16, 100, 500, 1000, 1990, 2030, 2040, 2046, 4000, 4096};
    private static final int[] FAR_SIZES = {60000, 125000, 1040000, 1048500, 1048576, 4194304};
    private static final int[] CONSTANTS = {0, 0, 0, 0, 2, -2, 1, 4, 100, -100, 2000, -2048, 4096, -9000};

    private final Random random;
    private final Due due;
    private final ShrinkLayout x = new ShrinkLayout();
    private final SlowLayout y = new SlowLayout();
    private final boolean large;
    private int calls = 0;
    private int parts = 0;
    private int pieces = 0;
    private int labels = 0;

    private static int fixedInAll = 0;
    private static int fixedInLaterRounds = 0;
    private static int longestShrink = 0;
    private static int shortFills = 0;

    private ModelTest(long seed, Due due) {
        this.random = new Random(seed);
        this.due = due;
        this.large = seed % 8 == 0;
    }

    public static void main(String[] args) {
        Due due = new Due();
        for (int run = 0; run < RUNS; run++) {
            new ModelTest(run, due).go();
        }
        System.out.println("fixed " + fixedInAll + ", after a shrink that left them " + fixedInLaterRounds
                + ", longest shrink " + longestShrink + ", short fills " + shortFills);
        // Drawn runs that miss these would not tell a broken promise from a kept one.
        due.is("pieces were fixed", fixedInAll > 1000, true);
        due.is("more were fixed than didn't hold at first", fixedInLaterRounds > 20, true);
        due.is("there were shrinks of many passes", longestShrink >= 5, true);
        due.is("there were short fills", shortFills > 100, true);
        due.end();
    }

    private void go() {
        int makers = large ? 300 : 15 + random.nextInt(60);
        for (int i = 0; i < 2 + random.nextInt(3); i++) {
            makePart();
            makeLabel();
        }
        for (int i = 0; i < makers; i++) {
            make();
        }
        while (calls < MOST_CALLS - 8) {
            int draw = random.nextInt(100);
            if (draw < 12) {
                make();
            } else if (draw < 30) {
                work();
            } else {
                ask();
            }
        }
    }

    private void is(String call, long got, long want) {
        calls++;
        due.is(call, got, want);
    }

    private void is(String call, boolean got, boolean want) {
        is(call, got ? 1 : 0, want ? 1 : 0);
    }

    private int below(int bound) {
        return random.nextInt(Math.max(1, bound));
    }

    private int oneOf(int[] row) {
        return row[random.nextInt(row.length)];
    }

    /** A number below the bound, or, now and then, one that is mostly wrong. */
    private int number(int bound) {
        return random.nextInt(25) == 0 ? oneOf(ODD_NUMBERS) : below(bound);
    }

    private void makePart() {
        int output = number(4);
        int power = random.nextInt(4) == 0 ? number(13) : below(5);
        is("part", x.part(output, power), y.part(output, power));
        parts++;
    }

    private void makeLabel() {
        is("label", x.label(), y.label());
        labels++;
    }

    private void make() {
        int draw = random.nextInt(100);
        if (draw < 4) {
            makePart();
        } else if (draw < 12) {
            makeLabel();
        } else if (draw < 26) {
            int part = number(parts);
            int n = random.nextInt(25) == 0 ? oneOf(FAR_SIZES) : random.nextInt(25) == 0 ? number(5) : oneOf(PLAIN_SIZES);
            is("plain", x.plain(part, n), y.plain(part, n));
            pieces++;
        } else if (draw < 70) {
            makeAimed();
        } else if (draw < 80) {
            int part = number(parts);
            int power = number(9);
            int n = random.nextInt(4) == 0 ? number(100) : 4000;
            is("fill", x.fill(part, power, n), y.fill(part, power, n));
            pieces++;
        } else {
            int label = number(labels);
            int piece = number(pieces);
            int at = random.nextBoolean() ? number(2) : number(2000);
            is("put", x.put(label, piece, at), y.put(label, piece, at));
        }
    }

    private void makeAimed() {
        int part = number(parts);
        int label = number(labels);
        int constant = random.nextInt(50) == 0 ? random.nextInt() : oneOf(CONSTANTS);
        boolean two = random.nextInt(4) != 0;
        switch (random.nextInt(5)) {
            case 0:
                is("upper", x.upper(part, label, constant, two), y.aimed(2, part, label, constant, two));
                break;
            case 1:
                is("near", x.near(part, label, constant), y.aimed(3, part, label, constant, false));
                break;
            default:
                is("call", x.call(part, label, constant, two), y.aimed(1, part, label, constant, two));
                break;
        }
        pieces++;
    }

    private void work() {
        switch (random.nextInt(16)) {
            case 0:
                int b = random.nextInt(3) == 0 ? number(1048577) : number(3000);
                is("base", x.base(b), y.base(b));
                break;
            case 1:
                int output = number(4);
                int power = number(13);
                is("align", x.align(output, power), y.align(output, power));
                break;
            case 2:
            case 3:
            case 4:
                int part = number(parts);
                boolean on = random.nextInt(3) != 0;
                is("root", x.root(part, on), y.root(part, on));
                break;
            case 5:
                is("sweep", x.sweep(), y.sweep());
                break;
            case 6:
            case 7:
                x.back();
                y.back();
                calls++;
                break;
            case 8:
            case 9:
                is("pass", x.pass(), y.pass());
                break;
            case 10:
            case 11:
                int passes = y.shrink();
                longestShrink = Math.max(longestShrink, passes);
                is("shrink", x.shrink(), passes);
                break;
            case 12:
            case 13:
            case 14:
                settle();
                break;
            default:
                x.reset();
                y.reset();
                calls++;
                break;
        }
    }

    private void settle() {
        boolean shrunkFirst = random.nextBoolean();
        int loose = 0;
        if (shrunkFirst) {
            is("shrink", x.shrink(), y.shrink());
            for (int i = 0; i < 256 && y.piece(i, 0) >= 0; i++) {
                loose += y.piece(i, 2) < y.piece(i, 4) ? 1 : 0;
            }
        }
        int fixed = y.settle();
        fixedInAll += fixed;
        if (shrunkFirst && fixed > loose) {
            fixedInLaterRounds++;
        }
        is("settle", x.settle(), fixed);
    }

    private void ask() {
        switch (random.nextInt(12)) {
            case 0:
                is("holds", x.holds(), y.holds());
                break;
            case 1:
                int lacking = y.lacks();
                shortFills += lacking >= 0 ? 1 : 0;
                is("lacks", x.lacks(), lacking);
                break;
            case 2:
                int aiming = number(pieces);
                is("aim", x.aim(aiming), y.aim(aiming));
                break;
            case 3:
                int label = number(labels);
                is("value", x.value(label), y.value(label));
                break;
            case 4:
                int part = number(parts);
                int what = number(5);
                is("span", x.span(part, what), y.span(part, what));
                break;
            case 5:
                int output = number(4);
                int end = number(2);
                is("output", x.output(output, end), y.output(output, end));
                break;
            case 6:
                is("saved", x.saved(), y.saved());
                break;
            default:
                int piece = number(pieces);
                int asked = number(6);
                is("piece", x.piece(piece, asked), y.piece(piece, asked));
                break;
        }
    }
}
