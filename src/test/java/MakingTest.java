/** Promises 1 to 9: a new object, part, plain, call, upper, near, fill, label, put. */
public final class MakingTest {
    private static final int[] WRONG = {-1, Integer.MIN_VALUE, Integer.MAX_VALUE};
    private static final Due due = new Due();

    public static void main(String[] args) {
        newObject();
        parts();
        plains();
        aimedPieces();
        fills();
        fullOfPieces();
        labels();
        puts();
        due.end();
    }

    private static void newObject() {
        ShrinkLayout x = new ShrinkLayout();
        for (int output = 0; output < 4; output++) {
            due.is("new: output begins", x.output(output, 0), 0);
            due.is("new: output ends", x.output(output, 1), 0);
        }
        due.is("new: piece", x.piece(0, 0), -1);
        due.is("new: span", x.span(0, 0), -1);
        due.is("new: value", x.value(0), -1);
        due.is("new: aim", x.aim(0), ShrinkLayout.NOTHING);
        due.is("new: holds", x.holds(), -1);
        due.is("new: lacks", x.lacks(), -1);
        due.is("new: pass", x.pass(), 0);
        due.is("new: shrink", x.shrink(), 1);
        due.is("new: settle", x.settle(), 0);
        due.is("new: sweep", x.sweep(), 0);
        due.is("new: saved", x.saved(), 0);
        x.reset();
        x.back();
        due.is("new: root", x.root(0, true), false);
        due.is("new: plain", x.plain(0, 1), -1);
        due.is("new: put", x.put(0, 0, 0), false);
        due.is("new: the first part", x.part(0, 0), 0);
        due.is("new: call without a label", x.call(0, 0, 0, true), -1);
        due.is("new: the first label", x.label(), 0);
        due.is("new: the first piece", x.plain(0, 0), 0);
    }

    private static void parts() {
        ShrinkLayout x = new ShrinkLayout();
        for (int wrong : WRONG) {
            due.is("part: wrong output", x.part(wrong, 0), -1);
            due.is("part: wrong power", x.part(0, wrong), -1);
        }
        due.is("part: output 4", x.part(4, 0), -1);
        due.is("part: power 13", x.part(0, 13), -1);
        for (int i = 0; i < 32; i++) {
            due.is("part", x.part(i % 4, i % 13), i);
        }
        due.is("part: a 33rd", x.part(0, 0), -1);
        due.is("part: no 33rd", x.span(32, 0), -1);
        for (int i = 0; i < 32; i++) {
            due.is("part: output of " + i, x.span(i, 0), i % 4);
            due.is("part: none is gone", x.span(i, 3), 0);
            due.is("part: none is a root", x.span(i, 4), 0);
        }
        ShrinkLayout y = new ShrinkLayout();
        y.base(1);
        y.part(0, 12);
        due.is("part: alignment 4096", y.span(0, 1), 4096);
        y.part(0, 0);
        y.plain(0, 3);
        y.part(0, 1);
        due.is("part: alignment 1", y.span(1, 1), 4099);
        due.is("part: alignment 2", y.span(2, 1), 4100);
    }

    private static void plains() {
        ShrinkLayout x = new ShrinkLayout();
        x.part(0, 0);
        x.part(1, 0);
        for (int wrong : WRONG) {
            due.is("plain: wrong part", x.plain(wrong, 1), -1);
            due.is("plain: wrong n", x.plain(0, wrong), -1);
        }
        due.is("plain: no such part", x.plain(2, 1), -1);
        due.is("plain: part 32", x.plain(32, 1), -1);
        due.is("plain: too many bytes", x.plain(0, 4194305), -1);
        due.is("plain: none came", x.piece(0, 0), -1);
        due.is("plain: no bytes", x.plain(1, 0), 0);
        due.is("plain: most bytes", x.plain(0, 4194304), 1);
        due.is("plain: a third", x.plain(1, 7), 2);
        checkPiece(x, 0, 0, 1, 0, 4194304);
        checkPiece(x, 1, 0, 0, 4194304, 0);
        checkPiece(x, 2, 0, 1, 7, 4194304);
    }

    private static void aimedPieces() {
        ShrinkLayout x = new ShrinkLayout();
        x.part(0, 0);
        x.label();
        for (int wrong : new int[] {-1, 1, 32, 64, Integer.MIN_VALUE, Integer.MAX_VALUE}) {
            due.is("call: wrong part", x.call(wrong, 0, 0, true), -1);
            due.is("call: wrong label", x.call(0, wrong, 0, true), -1);
            due.is("upper: wrong part", x.upper(wrong, 0, 0, true), -1);
            due.is("upper: wrong label", x.upper(0, wrong, 0, true), -1);
            due.is("near: wrong part", x.near(wrong, 0, 0), -1);
            due.is("near: wrong label", x.near(0, wrong, 0), -1);
        }
        due.is("call", x.call(0, 0, Integer.MIN_VALUE, true), 0);
        due.is("upper", x.upper(0, 0, Integer.MAX_VALUE, false), 1);
        due.is("near", x.near(0, 0, -5), 2);
        checkPiece(x, 0, 1, 0, 8, 0);
        checkPiece(x, 1, 2, 0, 4, 8);
        checkPiece(x, 2, 3, 0, 4, 12);
        due.is("aim without a value", x.aim(0), ShrinkLayout.NOTHING);
        x.put(0, 2, 1);
        due.is("call's aim", x.aim(0), 16L + Integer.MIN_VALUE);
        due.is("upper's aim", x.aim(1), 16L + Integer.MAX_VALUE);
        due.is("near's aim", x.aim(2), 11);
    }

    private static void fills() {
        ShrinkLayout x = new ShrinkLayout();
        x.part(0, 0);
        for (int wrong : WRONG) {
            due.is("fill: wrong part", x.fill(wrong, 1, 1), -1);
            due.is("fill: wrong power", x.fill(0, wrong, 1), -1);
            due.is("fill: wrong n", x.fill(0, 1, wrong), -1);
        }
        due.is("fill: no such part", x.fill(1, 1, 1), -1);
        due.is("fill: power 13", x.fill(0, 13, 1), -1);
        due.is("fill: too many bytes", x.fill(0, 1, 4097), -1);
        due.is("fill: nothing lacks", x.fill(0, 12, 4096), 0);
        due.is("fill: a byte", x.plain(0, 1), 1);
        due.is("fill: power 0", x.fill(0, 0, 4096), 2);
        due.is("fill: all lacking ones", x.fill(0, 3, 7), 3);
        due.is("fill: a byte", x.plain(0, 1), 4);
        due.is("fill: not enough", x.fill(0, 3, 6), 5);
        due.is("fill: no bytes", x.fill(0, 4, 0), 6);
        due.is("fill: to 4096", x.fill(0, 12, 4096), 7);
        checkPiece(x, 0, 4, 0, 0, 0);
        checkPiece(x, 2, 4, 0, 0, 1);
        checkPiece(x, 3, 4, 0, 7, 1);
        checkPiece(x, 5, 4, 0, 6, 9);
        checkPiece(x, 6, 4, 0, 0, 15);
        checkPiece(x, 7, 4, 0, 4081, 15);
    }

    private static void checkPiece(ShrinkLayout x, int piece, int sort, int part, int size, int place) {
        String name = "piece " + piece;
        due.is(name + ": sort", x.piece(piece, 0), sort);
        due.is(name + ": part", x.piece(piece, 1), part);
        due.is(name + ": size", x.piece(piece, 2), size);
        due.is(name + ": place", x.piece(piece, 3), place);
        due.is(name + ": least size", x.piece(piece, 4), size);
        due.is(name + ": fixed", x.piece(piece, 5), 0);
    }

    private static void fullOfPieces() {
        ShrinkLayout x = new ShrinkLayout();
        x.part(0, 0);
        x.part(0, 0);
        x.label();
        for (int i = 0; i < 256; i++) {
            due.is("the pieces", x.plain(i % 2, 4194304), i);
        }
        due.is("full: plain", x.plain(0, 1), -1);
        due.is("full: call", x.call(0, 0, 0, false), -1);
        due.is("full: upper", x.upper(0, 0, 0, false), -1);
        due.is("full: near", x.near(0, 0, 0), -1);
        due.is("full: fill", x.fill(0, 0, 0), -1);
        due.is("full: the base", x.base(1048576), true);
        due.is("full: the greatest end", x.output(3, 1), 1073741824 + 1048576);
        due.is("full: the last piece", x.piece(255, 3), 1073741824 + 1048576 - 4194304);
        due.is("full: none more", x.piece(256, 0), -1);
    }

    private static void labels() {
        ShrinkLayout x = new ShrinkLayout();
        for (int i = 0; i < 64; i++) {
            due.is("label", x.label(), i);
            due.is("label: no value", x.value(i), -1);
        }
        due.is("label: a 65th", x.label(), -1);
        due.is("label: no 65th", x.value(64), -1);
    }

    private static void puts() {
        ShrinkLayout x = new ShrinkLayout();
        x.base(100);
        x.part(0, 0);
        x.label();
        x.plain(0, 10);
        x.call(0, 0, 0, true);
        x.fill(0, 4, 15);
        for (int wrong : new int[] {-1, 3, 64, 256, Integer.MIN_VALUE, Integer.MAX_VALUE}) {
            due.is("put: wrong label", x.put(wrong, 0, 0), false);
            due.is("put: wrong piece", x.put(0, wrong, 0), false);
        }
        due.is("put: nowhere yet", x.value(0), -1);
        due.is("put: plain's beginning", x.put(0, 0, 0), true);
        due.is("put: its value", x.value(0), 100);
        due.is("put: plain's end", x.put(0, 0, 10), true);
        due.is("put: its value", x.value(0), 110);
        due.is("put: inside", x.put(0, 0, 3), true);
        for (int at : new int[] {-1, 11, Integer.MIN_VALUE, Integer.MAX_VALUE}) {
            due.is("put: wrong at of a plain one", x.put(0, 0, at), false);
        }
        for (int at : new int[] {-1, 2, Integer.MIN_VALUE, Integer.MAX_VALUE}) {
            due.is("put: wrong at of a call", x.put(0, 1, at), false);
            due.is("put: wrong at of a fill", x.put(0, 2, at), false);
        }
        due.is("put: a refused one moves nothing", x.value(0), 103);
        due.is("put: call's beginning", x.put(0, 1, 0), true);
        due.is("put: its value", x.value(0), 110);
        due.is("put: call's end", x.put(0, 1, 1), true);
        due.is("put: its value", x.value(0), 118);
        due.is("put: fill's beginning", x.put(0, 2, 0), true);
        due.is("put: its value", x.value(0), 118);
        due.is("put: fill's end", x.put(0, 2, 1), true);
        due.is("put: its value", x.value(0), 128);
    }
}
