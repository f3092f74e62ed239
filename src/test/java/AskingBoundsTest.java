/** Promises 20 to 25 at their bounds: lacks, piece, aim, value, span, output. */
public final class AskingBoundsTest {
    private static final Due due = new Due();
    private static final Unchanged empty = Made.empty(due);
    private static final Unchanged mixed = Made.mixed(due);
    private static final Unchanged full = Made.full(due);

    public static void main(String[] args) {
        promise20Edges();
        promise20First();
        promise21();
        promise21Gone();
        promise22();
        promise22AsLongs();
        promise22Gone();
        promise23();
        promise23Gone();
        promise24();
        promise24Gone();
        promise24Ends();
        promise25();
        promise25Order();
        promise25Greatest();
        due.end();
    }

    private static void promise20Edges() {
        empty.after("promise 20: an empty object", x -> x.lacks(), -1);
        mixed.after("promise 20: asking changes nothing", x -> x.lacks(), 1);
        for (int lack = 0; lack < 16; lack++) {
            for (int n = 0; n <= 16; n++) {
                ShrinkLayout x = new ShrinkLayout();
                x.base(1024 - lack);
                x.part(0, 0);
                x.fill(0, 4, n);
                String name = "promise 20: " + lack + " lack of " + n;
                due.is(name, x.lacks(), lack > n ? 0 : -1);
                due.is(name + ": bytes", x.piece(0, 2), Math.min(lack, n));
            }
        }
    }

    private static void promise20First() {
        ShrinkLayout x = new ShrinkLayout();
        x.part(1, 0);
        x.part(0, 0);
        for (int i = 0; i < 256; i++) {
            due.is("promise 20: a fill", x.fill(i == 0 ? 0 : 1, 12, 0), i);
        }
        due.is("promise 20: none at a multiple", x.lacks(), -1);
        x.base(1);
        due.is("promise 20: the first by its number, not by its place", x.lacks(), 0);
        x.root(1, true);
        due.is("promise 20: its part goes", x.sweep(), 1);
        due.is("promise 20: the first of a part that is there", x.lacks(), 1);
        x.root(1, false);
        x.root(0, true);
        x.sweep();
        due.is("promise 20: of the other", x.lacks(), 0);
        x.root(0, false);
        x.sweep();
        due.is("promise 20: all are gone", x.lacks(), -1);
        x.back();
        due.is("promise 20: all are back", x.lacks(), 0);
        ShrinkLayout y = Made.pieces(254);
        y.fill(0, 8, 2);
        y.fill(0, 12, 4096);
        due.is("promise 20: just enough, and more", y.lacks(), -1);
        y.base(255);
        due.is("promise 20: 3 lack", y.lacks(), 254);
        due.is("promise 20: 2 are there", y.piece(254, 2), 2);
        due.is("promise 20: plain pieces alone", Made.pieces(256).lacks(), -1);
    }

    private static void promise21() {
        for (int piece : Made.andEnds(-1, 10, 255, 256)) {
            for (int what = 0; what < 6; what++) {
                int asked = what;
                mixed.after("promise 21: piece(" + piece + ", " + what + ")", x -> x.piece(piece, asked));
            }
        }
        for (int what : Made.andEnds(-1, 6)) {
            for (int piece : new int[] {0, 2, 6, 9}) {
                mixed.after("promise 21: piece(" + piece + ", " + what + ")", x -> x.piece(piece, what));
            }
            full.after("promise 21: full: piece(255, " + what + ")", x -> x.piece(255, what));
            empty.after("promise 21: empty: piece(0, " + what + ")", x -> x.piece(0, what));
        }
        full.after("promise 21: full: piece(256, 0)", x -> x.piece(256, 0));
        int[][] rows = {
            // of mixed(): sort, part, size, place, least size, fixed
            {1, 0, 2, 1008, 4, 0}, {4, 0, 2, 1010, 2, 0}, {0, 0, 40, 1012, 40, 0}, {2, 1, 0, 1064, 0, 0},
            {3, 1, 0, 1064, 0, 0}, {0, 2, 6000, 1088, 6000, 0}, {1, 3, -1, -1, -1, 0}, {1, 0, 8, 1052, 4, 1},
            {3, 0, 4, 1060, 4, 0}, {1, 3, -1, -1, -1, 0}};
        for (int i = 0; i < rows.length; i++) {
            for (int what = 0; what < 6; what++) {
                int piece = i;
                int asked = what;
                mixed.after("promise 21: piece(" + i + ", " + what + ")", x -> x.piece(piece, asked), rows[i][what]);
            }
        }
        ShrinkLayout last = Made.full();
        due.is("promise 21: the last piece's sort", last.piece(255, 0), 0);
        due.is("promise 21: the last piece's part", last.piece(255, 1), 31);
        due.is("promise 21: the last piece's end is its part's", last.piece(255, 3) + last.piece(255, 2), last.span(31, 2));
    }

    private static void promise21Gone() {
        for (int sort = 0; sort < 5; sort++) {
            ShrinkLayout x = new ShrinkLayout();
            x.part(0, 0);
            x.label();
            Made.piece(x, sort, 0, 0);
            due.is("promise 21: its part goes", x.sweep(), 1);
            int[] gone = {sort, 0, -1, -1, -1, 0};
            for (int what = 0; what < 6; what++) {
                due.is("promise 21: gone, sort " + sort + ", what " + what, x.piece(0, what), gone[what]);
            }
            due.is("promise 21: gone, no such what", x.piece(0, 6), -1);
            x.back();
            due.is("promise 21: back, at 0", x.piece(0, 3), 0);
            due.is("promise 21: back, its size", x.piece(0, 2), new int[] {7, 8, 4, 4, 0}[sort]);
        }
        ShrinkLayout y = new ShrinkLayout();
        y.part(0, 0);
        y.label();
        y.near(0, 0, 0);
        y.put(0, 0, 0);
        y.pass();
        y.put(0, y.plain(0, 5000), 5000);
        y.part(2, 0);
        due.is("promise 21: at the end, where output 2 begins, it holds", y.settle(), 0);
        y.put(0, 1, 4000);
        due.is("promise 21: ahead of that it becomes fixed", y.settle(), 1);
        y.sweep();
        due.is("promise 21: fixed is told of a gone one", y.piece(0, 5), 1);
    }

    private static void promise22() {
        for (int piece : Made.andEnds(-1, 10, 255, 256)) {
            mixed.after("promise 22: aim(" + piece + ")", x -> x.aim(piece), ShrinkLayout.NOTHING);
        }
        full.after("promise 22: full: aim(256)", x -> x.aim(256), ShrinkLayout.NOTHING);
        empty.after("promise 22: empty: aim(0)", x -> x.aim(0), ShrinkLayout.NOTHING);
        for (int sort = 0; sort < 5; sort++) {
            ShrinkLayout x = new ShrinkLayout();
            x.base(1048576);
            x.part(0, 0);
            x.label();
            Made.piece(x, sort, 0, 0);
            due.is("promise 22: sort " + sort + " without a value", x.aim(0), ShrinkLayout.NOTHING);
            x.put(0, 0, 0);
            boolean aims = sort >= 1 && sort <= 3;
            due.is("promise 22: sort " + sort, x.aim(0), aims ? 1048576 : ShrinkLayout.NOTHING);
        }
    }

    private static void promise22AsLongs() {
        int[] constants = Made.andEnds(-1048577, -1048576, -1, 0, 1);
        for (int sort = 1; sort <= 3; sort++) {
            for (int constant : constants) {
                ShrinkLayout x = new ShrinkLayout();
                x.base(1048576);
                x.part(0, 0);
                x.label();
                x.plain(0, 4194304);
                Made.aimed(x, sort, 0, 0, constant, false);
                x.put(0, 0, 4194304);
                due.is("promise 22: by " + constant, x.aim(1), 5242880L + constant);
                x.base(0);
                x.put(0, 0, 0);
                due.is("promise 22: from 0 by " + constant, x.aim(1), constant);
            }
        }
        ShrinkLayout y = new ShrinkLayout();
        y.part(0, 0);
        y.label();
        y.near(0, 0, Integer.MAX_VALUE);
        for (int i = 1; i < 256; i++) {
            y.plain(0, 4194304);
        }
        y.put(0, 255, 4194304);
        due.is("promise 22: the greatest", y.aim(0), 4L + 255L * 4194304L + Integer.MAX_VALUE);
        due.is("promise 22: out of reach, though an int would wrap around", y.piece(0, 4), 4);
    }

    private static void promise22Gone() {
        ShrinkLayout x = Made.mixed();
        due.is("promise 22: a gone piece's aim at what is there", x.aim(6), x.value(0));
        due.is("promise 22: at a label that is nowhere", x.aim(8), ShrinkLayout.NOTHING);
        x.put(0, 6, 0);
        due.is("promise 22: at a gone part", x.aim(0), ShrinkLayout.NOTHING);
        due.is("promise 22: from a gone part to itself", x.aim(6), ShrinkLayout.NOTHING);
        x.back();
        due.is("promise 22: it is back", x.aim(0), x.piece(6, 3));
    }

    private static void promise23() {
        for (int label : Made.andEnds(-1, 5, 63, 64)) {
            mixed.after("promise 23: value(" + label + ")", x -> x.value(label));
        }
        mixed.after("promise 23: at no piece", x -> x.value(4));
        mixed.after("promise 23: asking changes nothing", x -> x.value(1), 1188);
        full.after("promise 23: full: value(64)", x -> x.value(64));
        full.after("promise 23: full: the last is at no piece", x -> x.value(63));
        empty.after("promise 23: empty: value(0)", x -> x.value(0));
        ShrinkLayout x = Made.pieces(1);
        x.put(0, 0, 0);
        due.is("promise 23: the least value", x.value(0), 0);
        ShrinkLayout y = new ShrinkLayout();
        y.base(1048576);
        y.part(3, 0);
        y.label();
        for (int i = 0; i < 256; i++) {
            y.plain(0, 4194304);
        }
        y.put(0, 255, 4194304);
        due.is("promise 23: a great value", y.value(0), 1048576 + 256 * 4194304);
    }

    private static void promise23Gone() {
        for (int sort = 0; sort < 5; sort++) {
            ShrinkLayout x = new ShrinkLayout();
            x.base(5);
            x.part(0, 0);
            x.label();
            Made.piece(x, sort, 0, 0);
            x.put(0, 0, 0);
            due.is("promise 23: sort " + sort, x.value(0), 5);
            x.sweep();
            due.is("promise 23: gone, sort " + sort, x.value(0), -1);
            x.put(0, 0, 1);
            due.is("promise 23: its end, sort " + sort, x.value(0), -1);
            x.back();
            due.is("promise 23: back, sort " + sort, x.value(0), 5 + (sort == 0 ? 1 : x.piece(0, 2)));
        }
    }

    private static void promise24() {
        for (int part : Made.andEnds(-1, 4, 31, 32)) {
            for (int what = 0; what < 5; what++) {
                int asked = what;
                mixed.after("promise 24: span(" + part + ", " + what + ")", x -> x.span(part, asked));
            }
        }
        for (int what : Made.andEnds(-1, 5)) {
            for (int part : new int[] {0, 3}) {
                mixed.after("promise 24: span(" + part + ", " + what + ")", x -> x.span(part, what));
            }
            full.after("promise 24: full: span(31, " + what + ")", x -> x.span(31, what));
            empty.after("promise 24: empty: span(0, " + what + ")", x -> x.span(0, what));
        }
        full.after("promise 24: full: span(32, 0)", x -> x.span(32, 0));
        int[][] rows = {{0, 1008, 1064, 0, 1}, {1, 1064, 1064, 0, 1}, {2, 1088, 7088, 0, 0}, {3, -1, -1, 1, 0}};
        for (int i = 0; i < rows.length; i++) {
            for (int what = 0; what < 5; what++) {
                int part = i;
                int asked = what;
                mixed.after("promise 24: span(" + i + ", " + what + ")", x -> x.span(part, asked), rows[i][what]);
            }
        }
    }

    private static void promise24Gone() {
        ShrinkLayout x = Made.mixed();
        x.root(3, true);
        int[] gone = {3, -1, -1, 1, 1};
        for (int what = 0; what < 5; what++) {
            due.is("promise 24: gone and a root, what " + what, x.span(3, what), gone[what]);
        }
        due.is("promise 24: gone, no such what", x.span(3, 5), -1);
        x.back();
        due.is("promise 24: back", x.span(3, 3), 0);
        due.is("promise 24: back, it begins", x.span(3, 1), 7088);
        due.is("promise 24: back, it ends", x.span(3, 2) > 7088, true);
    }

    private static void promise24Ends() {
        ShrinkLayout x = new ShrinkLayout();
        x.base(5);
        x.part(0, 2);
        due.is("promise 24: a part without pieces begins", x.span(0, 1), 8);
        due.is("promise 24: and ends there", x.span(0, 2), 8);
        due.is("promise 24: its output ends there, too", x.output(0, 1), 8);
        x.plain(0, 0);
        due.is("promise 24: a piece of no bytes", x.span(0, 2), 8);
        x.part(0, 3);
        due.is("promise 24: the next one begins where it ends", x.span(1, 1), 8);
        x.plain(0, 1);
        due.is("promise 24: a byte more", x.span(0, 2), 9);
        due.is("promise 24: the next one's next multiple", x.span(1, 1), 16);
        x.root(1, true);
        x.sweep();
        due.is("promise 24: the first is left out", x.span(1, 1), 8);
        x.base(9);
        due.is("promise 24: from the output's beginning", x.span(1, 1), 16);
    }

    private static void promise25() {
        for (int output : Made.andEnds(-1, 4)) {
            for (int what = 0; what < 2; what++) {
                int asked = what;
                empty.after("promise 25: empty: output(" + output + ", " + what + ")", x -> x.output(output, asked));
                mixed.after("promise 25: output(" + output + ", " + what + ")", x -> x.output(output, asked));
            }
        }
        for (int what : Made.andEnds(-1, 2)) {
            for (int output = 0; output < 4; output++) {
                int asked = output;
                empty.after("promise 25: empty: output(" + output + ", " + what + ")", x -> x.output(asked, what));
                mixed.after("promise 25: output(" + output + ", " + what + ")", x -> x.output(asked, what));
            }
        }
        int[][] rows = {{1001, 1064}, {1064, 1064}, {1088, 7088}, {7088, 7088}};
        for (int i = 0; i < rows.length; i++) {
            for (int what = 0; what < 2; what++) {
                int output = i;
                int asked = what;
                mixed.after("promise 25: output(" + i + ", " + what + ")", x -> x.output(output, asked), rows[i][what]);
            }
        }
    }

    private static void promise25Order() {
        ShrinkLayout x = new ShrinkLayout();
        x.base(3);
        x.align(3, 4);
        for (int output = 0; output < 4; output++) {
            due.is("promise 25: without parts, output " + output, x.output(output, 0), output == 3 ? 16 : 3);
            due.is("promise 25: it ends there", x.output(output, 1), output == 3 ? 16 : 3);
        }
        x.part(3, 0);
        x.part(0, 0);
        x.part(3, 2);
        x.part(0, 2);
        for (int part = 0; part < 4; part++) {
            x.plain(part, 1 + part);
        }
        due.is("promise 25: output 0 ends with its last part", x.output(0, 1), 12);
        due.is("promise 25: output 3 begins", x.output(3, 0), 16);
        due.is("promise 25: output 3 ends with its last part", x.output(3, 1), 23);
        x.root(1, true);
        x.root(0, true);
        due.is("promise 25: the last parts go", x.sweep(), 2);
        due.is("promise 25: output 0 ends with the other", x.output(0, 1), 5);
        due.is("promise 25: output 3 ends with the other", x.output(3, 1), 17);
        x.root(0, false);
        x.sweep();
        due.is("promise 25: output 3 has none", x.output(3, 1), 16);
    }

    /** The end farthest from 0: every limit of the document reached at once. */
    private static void promise25Greatest() {
        ShrinkLayout x = new ShrinkLayout();
        x.base(1048576);
        for (int output = 0; output < 4; output++) {
            x.align(output, 12);
        }
        for (int part = 0; part < 32; part++) {
            x.part(part % 4, 12);
        }
        for (int i = 0; i < 224; i++) {
            x.plain(i % 32, 4194304);
        }
        for (int i = 0; i < 32; i++) {
            x.plain(i, 4194303);
        }
        due.is("promise 25: the greatest end", x.output(3, 1), 1048576 + 256 * 4194304 - 1);
        due.is("promise 25: the last part begins", x.span(31, 1), 1048576 + 248 * 4194304);
    }
}
