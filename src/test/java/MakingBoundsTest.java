/** Promises 1 to 9 at their bounds: the last that is taken, the first that is refused, empty and full objects. */
public final class MakingBoundsTest {
    private static final String[] SORTS = {"plain", "call", "upper", "near", "fill"};
    private static final Due due = new Due();
    private static final Unchanged empty = Made.empty(due);
    private static final Unchanged mixed = Made.mixed(due);
    private static final Unchanged full = Made.full(due);

    public static void main(String[] args) {
        readyObjects();
        promise1NothingIsThere();
        promise1ObjectsShareNothing();
        promise2Refused();
        promise2Taken();
        promise2Alignments();
        promise2Full();
        promise3Refused();
        promise3Taken();
        for (int sort = 1; sort <= 3; sort++) {
            promises4To6Refused(sort);
            promises4To6Taken(sort);
        }
        promise7Refused();
        promise7Taken();
        promise7Bytes();
        promises3To7Full();
        promises3To7InAGonePart();
        promise8Full();
        promise9Refused();
        promise9PlainEnds();
        promise9OtherEnds();
        promise9Moves();
        due.end();
    }

    /** The tests below say something only if the objects are what they are meant to be. */
    private static void readyObjects() {
        ShrinkLayout x = Made.mixed();
        due.is("mixed: a part is gone", x.span(3, 3), 1);
        due.is("mixed: a part is there", x.span(2, 3), 0);
        due.is("mixed: a root", x.span(1, 4), 1);
        due.is("mixed: a piece doesn't hold", x.holds(), 0);
        due.is("mixed: a fill is short", x.lacks(), 1);
        due.is("mixed: a piece is fixed", x.piece(7, 5), 1);
        due.is("mixed: a piece is smaller", x.saved() > 0, true);
        due.is("mixed: a label is nowhere", x.value(4), -1);
        ShrinkLayout y = Made.full();
        due.is("full: the last part", y.span(31, 0), 3);
        due.is("full: the last piece", y.piece(255, 1), 31);
        due.is("full: a label", y.value(46) > 0, true);
        due.is("full: shrunk", y.saved() > 0, true);
    }

    private static void promise1NothingIsThere() {
        ShrinkLayout x = new ShrinkLayout();
        for (int number : Made.andEnds(-1, 0, 1, 31, 63, 255)) {
            for (int what = 0; what < 6; what++) {
                due.is("promise 1: piece(" + number + ", " + what + ")", x.piece(number, what), -1);
                due.is("promise 1: span(" + number + ", " + what + ")", x.span(number, what), -1);
            }
            due.is("promise 1: aim(" + number + ")", x.aim(number), ShrinkLayout.NOTHING);
            due.is("promise 1: value(" + number + ")", x.value(number), -1);
        }
        for (int output = 0; output < 4; output++) {
            due.is("promise 1: output " + output + " begins", x.output(output, 0), 0);
            due.is("promise 1: output " + output + " ends", x.output(output, 1), 0);
        }
        empty.after("promise 1: holds()", y -> y.holds());
        empty.after("promise 1: lacks()", y -> y.lacks());
        empty.after("promise 1: pass()", y -> y.pass(), 0);
        empty.after("promise 1: shrink()", y -> y.shrink(), 1);
        empty.after("promise 1: settle()", y -> y.settle(), 0);
        empty.after("promise 1: sweep()", y -> y.sweep(), 0);
        empty.after("promise 1: saved()", y -> y.saved(), 0);
        empty.after("promise 1: plain(0, 0)", y -> y.plain(0, 0));
        empty.after("promise 1: fill(0, 0, 0)", y -> y.fill(0, 0, 0));
        empty.after("promise 1: put(0, 0, 0)", y -> y.put(0, 0, 0) ? 1 : 0, 0);
        empty.after("promise 1: root(0, true)", y -> y.root(0, true) ? 1 : 0, 0);
        empty.after("promise 1: root(0, false)", y -> y.root(0, false) ? 1 : 0, 0);
        due.is("promise 1: alignments are 1, base", x.base(1), true);
        for (int output = 0; output < 4; output++) {
            due.is("promise 1: alignment of output " + output + " is 1", x.output(output, 0), 1);
        }
    }

    private static void promise1ObjectsShareNothing() {
        ShrinkLayout x = Made.mixed();
        ShrinkLayout y = new ShrinkLayout();
        due.is("promise 1: another object's base", y.output(0, 0), 0);
        due.is("promise 1: another object's parts", y.part(1, 0), 0);
        due.is("promise 1: another object's labels", y.label(), 0);
        due.is("promise 1: another object's pieces", y.plain(0, 3), 0);
        y.sweep();
        y.align(0, 12);
        due.is("promise 1: the first one's part 0", x.span(0, 3), 0);
        due.is("promise 1: the first one's output 0", x.output(0, 0), 1001);
        due.is("promise 1: the first one's next part", x.part(0, 0), 4);
    }

    private static void promise2Refused() {
        for (int output : Made.andEnds(-1, 4)) {
            for (int power : new int[] {0, 12}) {
                String name = "promise 2: part(" + output + ", " + power + ")";
                empty.after(name, x -> x.part(output, power));
                mixed.after(name, x -> x.part(output, power));
            }
        }
        // From 32 on a shift counts anew: these would be small alignments again.
        for (int power : Made.andEnds(-1, 13, 31, 32, 33, 44, -32, -20)) {
            for (int output : new int[] {0, 3}) {
                String name = "promise 2: part(" + output + ", " + power + ")";
                empty.after(name, x -> x.part(output, power));
                mixed.after(name, x -> x.part(output, power));
            }
        }
    }

    private static void promise2Taken() {
        ShrinkLayout x = new ShrinkLayout();
        due.is("promise 2: part(0, 0)", x.part(0, 0), 0);
        due.is("promise 2: part(3, 12)", x.part(3, 12), 1);
        due.is("promise 2: a refused one takes no number", x.part(4, 0), -1);
        due.is("promise 2: part(3, 0)", x.part(3, 0), 2);
        due.is("promise 2: part(0, 12)", x.part(0, 12), 3);
        int[] outputs = {0, 3, 3, 0};
        for (int i = 0; i < outputs.length; i++) {
            due.is("promise 2: output of part " + i, x.span(i, 0), outputs[i]);
            due.is("promise 2: part " + i + " isn't gone", x.span(i, 3), 0);
            due.is("promise 2: part " + i + " is no root", x.span(i, 4), 0);
        }
        due.is("promise 2: none beyond", x.span(4, 0), -1);
    }

    private static void promise2Alignments() {
        for (int power = 0; power <= 12; power++) {
            int alignment = 1 << power;
            ShrinkLayout x = new ShrinkLayout();
            x.part(0, power);
            for (int base : new int[] {0, 1, alignment - 1, alignment, alignment + 1, 1048575, 1048576}) {
                x.base(base);
                int multiple = (base + alignment - 1) / alignment * alignment;
                due.is("promise 2: alignment " + alignment + " from " + base, x.span(0, 1), multiple);
                due.is("promise 2: the output begins ahead", x.output(0, 0), base);
            }
            ShrinkLayout y = new ShrinkLayout();
            y.part(0, 0);
            y.part(0, power);
            y.plain(0, alignment);
            due.is("promise 2: behind a part that ends at a multiple", y.span(1, 1), alignment);
            y.plain(0, 1);
            due.is("promise 2: behind one that ends above it", y.span(1, 1), power == 0 ? 2 : 2 * alignment);
        }
    }

    private static void promise2Full() {
        ShrinkLayout x = new ShrinkLayout();
        for (int i = 0; i < 32; i++) {
            due.is("promise 2: part " + i, x.part(3, 0), i);
        }
        due.is("promise 2: a 33rd part", x.part(3, 0), -1);
        due.is("promise 2: no 33rd part", x.span(32, 0), -1);
        due.is("promise 2: full of parts, yet a label", x.label(), 0);
        due.is("promise 2: full of parts, yet a piece in the last", x.plain(31, 5), 0);
        due.is("promise 2: all parts go", x.sweep(), 32);
        due.is("promise 2: those that are gone are still there to count", x.part(0, 0), -1);
        full.after("promise 2: full: part(0, 0)", y -> y.part(0, 0));
        full.after("promise 2: full: part(3, 12)", y -> y.part(3, 12));
        full.after("promise 2: full: part(4, 13)", y -> y.part(4, 13));
    }

    private static void promise3Refused() {
        for (int part : Made.andEnds(-1, 4, 31, 32)) {
            mixed.after("promise 3: plain(" + part + ", 0)", x -> x.plain(part, 0));
        }
        for (int n : Made.andEnds(-1, 4194305)) {
            for (int part : new int[] {0, 3}) {
                mixed.after("promise 3: plain(" + part + ", " + n + ")", x -> x.plain(part, n));
            }
        }
        empty.after("promise 3: empty: plain(0, 1)", x -> x.plain(0, 1));
    }

    private static void promise3Taken() {
        ShrinkLayout x = new ShrinkLayout();
        x.part(0, 0);
        x.part(0, 0);
        due.is("promise 3: plain(0, 0)", x.plain(0, 0), 0);
        due.is("promise 3: plain(1, 4194304)", x.plain(1, 4194304), 1);
        due.is("promise 3: a refused one takes no number", x.plain(2, 1), -1);
        due.is("promise 3: plain(1, 1)", x.plain(1, 1), 2);
        int[][] rows = {{0, 0, 0, 0, 0, 0}, {0, 1, 4194304, 0, 4194304, 0}, {0, 1, 1, 4194304, 1, 0}};
        for (int i = 0; i < rows.length; i++) {
            for (int what = 0; what < rows[i].length; what++) {
                due.is("promise 3: piece(" + i + ", " + what + ")", x.piece(i, what), rows[i][what]);
            }
        }
        ShrinkLayout y = new ShrinkLayout();
        for (int i = 0; i < 32; i++) {
            y.part(0, 0);
        }
        due.is("promise 3: the last part", y.plain(31, 4194304), 0);
        due.is("promise 3: the last part ends", y.span(31, 2), 4194304);
    }

    private static void promises4To6Refused(int sort) {
        String name = "promise " + (sort + 3) + ": " + SORTS[sort];
        for (int number : Made.andEnds(-1, 5, 31, 32, 63, 64)) {
            mixed.after(name + " in part " + number, x -> Made.aimed(x, sort, number, 0, 0, true));
            mixed.after(name + " by label " + number, x -> Made.aimed(x, sort, 0, number, 0, true));
        }
        mixed.after(name + " in part 4, one beyond the last", x -> Made.aimed(x, sort, 4, 4, 0, false));
        mixed.after(name + " with both wrong", x -> Made.aimed(x, sort, 4, 5, 0, false));
        empty.after(name + " in an empty object", x -> Made.aimed(x, sort, 0, 0, 0, false));
        ShrinkLayout noLabel = new ShrinkLayout();
        noLabel.part(0, 0);
        due.is(name + " without any label", Made.aimed(noLabel, sort, 0, 0, 0, true), -1);
        ShrinkLayout noPart = new ShrinkLayout();
        noPart.label();
        due.is(name + " without any part", Made.aimed(noPart, sort, 0, 0, 0, true), -1);
    }

    private static void promises4To6Taken(int sort) {
        String name = "promise " + (sort + 3) + ": " + SORTS[sort];
        int greatest = sort == 1 ? 8 : 4;
        ShrinkLayout x = new ShrinkLayout();
        for (int i = 0; i < 32; i++) {
            x.part(0, 0);
        }
        for (int i = 0; i < 64; i++) {
            x.label();
        }
        int[][] rows = {
            {0, 0, Integer.MIN_VALUE, 1}, {31, 63, Integer.MAX_VALUE, 0}, {0, 63, 0, 0}, {31, 0, -1, 1}};
        for (int i = 0; i < rows.length; i++) {
            int[] row = rows[i];
            due.is(name, Made.aimed(x, sort, row[0], row[1], row[2], row[3] == 1), i);
            due.is(name + ": sort", x.piece(i, 0), sort);
            due.is(name + ": part", x.piece(i, 1), row[0]);
            due.is(name + ": its greatest size at first", x.piece(i, 2), greatest);
            due.is(name + ": least size without an aim", x.piece(i, 4), greatest);
            due.is(name + ": not fixed at first", x.piece(i, 5), 0);
            due.is(name + ": no aim", x.aim(i), ShrinkLayout.NOTHING);
        }
        int far = x.plain(31, 4194304);
        x.put(0, far, 4194304);
        x.put(63, far, 4194304);
        long place = 4 * greatest + 4194304;
        for (int i = 0; i < rows.length; i++) {
            due.is(name + ": aim by the constant " + rows[i][2], x.aim(i), place + rows[i][2]);
        }
        due.is(name + ": all hold", x.holds(), -1);
        due.is(name + ": nothing is saved by making", x.saved(), 0);
    }

    private static void promise7Refused() {
        for (int part : Made.andEnds(-1, 4, 31, 32)) {
            mixed.after("promise 7: fill(" + part + ", 0, 0)", x -> x.fill(part, 0, 0));
        }
        for (int power : Made.andEnds(-1, 13, 31, 32, 44, -32, -20)) {
            mixed.after("promise 7: fill(0, " + power + ", 0)", x -> x.fill(0, power, 0));
        }
        for (int n : Made.andEnds(-1, 4097, 4194304)) {
            mixed.after("promise 7: fill(0, 0, " + n + ")", x -> x.fill(0, 0, n));
            mixed.after("promise 7: fill(3, 12, " + n + ")", x -> x.fill(3, 12, n));
        }
        empty.after("promise 7: empty: fill(0, 1, 1)", x -> x.fill(0, 1, 1));
    }

    private static void promise7Taken() {
        int[][] rows = {{0, 0}, {0, 4096}, {12, 0}, {12, 4096}};
        ShrinkLayout x = new ShrinkLayout();
        x.part(0, 0);
        x.part(1, 0);
        for (int i = 0; i < rows.length; i++) {
            due.is("promise 7: fill(1, " + rows[i][0] + ", " + rows[i][1] + ")", x.fill(1, rows[i][0], rows[i][1]), i);
            due.is("promise 7: sort", x.piece(i, 0), 4);
            due.is("promise 7: part", x.piece(i, 1), 1);
            due.is("promise 7: never fixed", x.piece(i, 5), 0);
        }
        due.is("promise 7: a refused one takes no number", x.fill(2, 0, 0), -1);
        due.is("promise 7: the next one", x.fill(0, 1, 1), 4);
    }

    /** What a fill has at each edge: nothing lacks, n just reaches, one more lacks. */
    private static void promise7Bytes() {
        int[][] rows = {
            // power, n, place, bytes, short
            {0, 0, 0, 0, 0}, {0, 4096, 1, 0, 0}, {0, 0, 1048575, 0, 0},
            {1, 1, 0, 0, 0}, {1, 1, 1, 1, 0}, {1, 0, 1, 0, 1}, {1, 1, 2, 0, 0},
            {4, 15, 1, 15, 0}, {4, 14, 1, 14, 1}, {4, 16, 1, 15, 0}, {4, 1, 15, 1, 0}, {4, 0, 15, 0, 1},
            {4, 0, 16, 0, 0}, {4, 15, 17, 15, 0}, {4, 0, 0, 0, 0},
            {12, 4096, 1, 4095, 0}, {12, 4095, 1, 4095, 0}, {12, 4094, 1, 4094, 1}, {12, 4096, 0, 0, 0},
            {12, 4096, 4096, 0, 0}, {12, 1, 4095, 1, 0}, {12, 4096, 1048576, 0, 0}, {12, 4096, 1048575, 1, 0}};
        for (int[] row : rows) {
            String name = "promise 7: fill(0, " + row[0] + ", " + row[1] + ") at " + row[2];
            ShrinkLayout x = new ShrinkLayout();
            x.part(0, 0);
            x.fill(0, row[0], row[1]);
            x.plain(0, 1);
            x.base(row[2]);
            due.is(name + ": size", x.piece(0, 2), row[3]);
            due.is(name + ": least size", x.piece(0, 4), row[3]);
            due.is(name + ": where it ends", x.piece(1, 3), row[2] + row[3]);
            due.is(name + ": short", x.lacks(), row[4] == 1 ? 0 : -1);
            due.is(name + ": holds", x.holds(), -1);
        }
    }

    private static void promises3To7Full() {
        for (int sort = 0; sort < 5; sort++) {
            int made = sort;
            String name = "promise " + (sort + 3) + ": " + SORTS[sort];
            ShrinkLayout x = Made.pieces(255);
            due.is(name + " as the 256th piece", Made.piece(x, sort, 0, 0), 255);
            due.is(name + " is there", x.piece(255, 0), sort);
            due.is(name + ": full of pieces, yet a label", x.label(), 1);
            due.is(name + ": full of pieces, yet a part", x.part(0, 0), 1);
            for (int next = 0; next < 5; next++) {
                due.is("promise " + (next + 3) + ": " + SORTS[next] + " as a 257th", Made.piece(x, next, 0, 0), -1);
            }
            due.is(name + ": no 257th", x.piece(256, 0), -1);
            due.is(name + ": all parts go", x.sweep(), 2);
            due.is(name + ": gone pieces are still there to count", Made.piece(x, sort, 0, 0), -1);
            full.after(name + " in a full object", y -> Made.piece(y, made, 31, 63));
            full.after(name + " in a full object, with a wrong part too", y -> Made.piece(y, made, 32, 0));
        }
    }

    private static void promises3To7InAGonePart() {
        for (int sort = 0; sort < 5; sort++) {
            String name = "promise " + (sort + 3) + ": " + SORTS[sort] + " in a gone part";
            ShrinkLayout x = Made.mixed();
            due.is(name, Made.piece(x, sort, 3, 1), 10);
            due.is(name + ": its part", x.piece(10, 1), 3);
            due.is(name + ": no place", x.piece(10, 3), -1);
            x.back();
            due.is(name + ": a place behind the others", x.piece(10, 3), x.piece(9, 3) + x.piece(9, 2));
            due.is(name + ": the part ends behind it", x.span(3, 2), x.piece(10, 3) + x.piece(10, 2));
        }
    }

    private static void promise8Full() {
        ShrinkLayout x = Made.pieces(1);
        for (int i = 1; i < 64; i++) {
            due.is("promise 8: no label " + i + " yet", x.put(i, 0, 0), false);
            due.is("promise 8: label " + i, x.label(), i);
            due.is("promise 8: at no piece", x.value(i), -1);
        }
        due.is("promise 8: a 65th label", x.label(), -1);
        due.is("promise 8: no 65th label", x.put(64, 0, 0), false);
        due.is("promise 8: the last can be put", x.put(63, 0, 1), true);
        due.is("promise 8: its value", x.value(63), 1);
        due.is("promise 8: full of labels, yet a part", x.part(0, 0), 1);
        due.is("promise 8: full of labels, yet a piece by the last", x.near(0, 63, 0), 1);
        full.after("promise 8: full: label()", y -> y.label());
        ShrinkLayout y = new ShrinkLayout();
        due.is("promise 8: the first, in an empty object", y.label(), 0);
        due.is("promise 8: the first is nowhere", y.value(0), -1);
    }

    private static void promise9Refused() {
        for (int label : Made.andEnds(-1, 5, 63, 64)) {
            mixed.after("promise 9: put(" + label + ", 0, 0)", x -> x.put(label, 0, 0) ? 1 : 0, 0);
        }
        for (int piece : Made.andEnds(-1, 10, 255, 256)) {
            for (int label : new int[] {0, 4}) {
                mixed.after("promise 9: put(" + label + ", " + piece + ", 0)", x -> x.put(label, piece, 0) ? 1 : 0, 0);
            }
        }
        // Of mixed(): two plain ones, then a call, a fill, an upper, a near, and a call of a gone part.
        int[][] mostAt = {{2, 40}, {5, 6000}, {0, 1}, {1, 1}, {3, 1}, {4, 1}, {6, 1}};
        for (int[] row : mostAt) {
            for (int at : Made.andEnds(-1, row[1] + 1)) {
                for (int label : new int[] {0, 4}) {
                    String name = "promise 9: put(" + label + ", " + row[0] + ", " + at + ")";
                    mixed.after(name, x -> x.put(label, row[0], at) ? 1 : 0, 0);
                }
            }
        }
        full.after("promise 9: full: put(64, 255, 0)", x -> x.put(64, 255, 0) ? 1 : 0, 0);
        full.after("promise 9: full: put(63, 256, 0)", x -> x.put(63, 256, 0) ? 1 : 0, 0);
        full.after("promise 9: full: put(63, 255, 8)", x -> x.put(63, 255, 8) ? 1 : 0, 0);
    }

    private static void promise9PlainEnds() {
        for (int n : new int[] {0, 1, 2, 100, 4194303, 4194304}) {
            ShrinkLayout x = new ShrinkLayout();
            x.base(1048576);
            x.part(0, 0);
            x.plain(0, n);
            x.label();
            String name = "promise 9: at a plain piece of " + n;
            due.is(name + ": beyond its end, ahead of all", x.put(0, 0, n + 1), false);
            due.is(name + ": nowhere still", x.value(0), -1);
            due.is(name + ": its beginning", x.put(0, 0, 0), true);
            due.is(name + ": value there", x.value(0), 1048576);
            due.is(name + ": its end", x.put(0, 0, n), true);
            due.is(name + ": value there", x.value(0), 1048576 + n);
            due.is(name + ": ahead of its beginning", x.put(0, 0, -1), false);
            due.is(name + ": beyond its end", x.put(0, 0, n + 1), false);
            due.is(name + ": stays at its end", x.value(0), 1048576 + n);
        }
    }

    private static void promise9OtherEnds() {
        for (int sort = 1; sort < 5; sort++) {
            ShrinkLayout x = new ShrinkLayout();
            x.base(11);
            x.part(0, 0);
            x.label();
            Made.piece(x, sort, 0, 0);
            String name = "promise 9: at a " + SORTS[sort];
            int size = sort == 1 ? 8 : sort == 4 ? 5 : 4;
            due.is(name + ": its size", x.piece(0, 2), size);
            due.is(name + ": 0", x.put(0, 0, 0), true);
            due.is(name + ": its beginning", x.value(0), 11);
            due.is(name + ": 1", x.put(0, 0, 1), true);
            due.is(name + ": its end", x.value(0), 11 + size);
            due.is(name + ": 2", x.put(0, 0, 2), false);
            due.is(name + ": -1", x.put(0, 0, -1), false);
            due.is(name + ": its size as a place", x.put(0, 0, size), false);
            due.is(name + ": stays at its end", x.value(0), 11 + size);
        }
        ShrinkLayout y = new ShrinkLayout();
        y.part(0, 0);
        y.label();
        y.near(0, 0, 0);
        y.fill(0, 2, 3);
        y.put(0, 0, 1);
        due.is("promise 9: a near that becomes 0", y.pass(), 1);
        due.is("promise 9: the end comes with it", y.value(0), 0);
        due.is("promise 9: the end of one of no bytes", y.put(0, 0, 1), true);
        due.is("promise 9: no further", y.put(0, 0, 2), false);
        due.is("promise 9: the end of a fill of no bytes", y.put(0, 1, 1), true);
        due.is("promise 9: its value", y.value(0), 0);
        y.base(1);
        due.is("promise 9: the end of the fill as it grows", y.value(0), 4);
    }

    private static void promise9Moves() {
        ShrinkLayout x = Made.mixed();
        due.is("promise 9: put ahead of a piece in a gone part", x.put(4, 6, 0), true);
        due.is("promise 9: no value there", x.value(4), -1);
        due.is("promise 9: to a part that is there", x.put(4, 2, 40), true);
        due.is("promise 9: its value", x.value(4), x.piece(2, 3) + 40);
        due.is("promise 9: the same again", x.put(4, 2, 40), true);
        due.is("promise 9: the same value", x.value(4), x.piece(2, 3) + 40);
        due.is("promise 9: two labels at one place", x.put(3, 2, 40), true);
        due.is("promise 9: the same value", x.value(3), x.value(4));
        due.is("promise 9: from where it was", x.put(4, 0, 0), true);
        due.is("promise 9: its value", x.value(4), x.piece(0, 3));
        due.is("promise 9: the other stays", x.value(3), x.piece(2, 3) + 40);
    }
}
