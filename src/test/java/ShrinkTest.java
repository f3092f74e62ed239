/** Promises 15 to 19 and 26, and the least sizes: pass, shrink, settle, reset, holds, saved. */
public final class ShrinkTest {
    private static final Due due = new Due();

    public static void main(String[] args) {
        leastCalls();
        leastLoads();
        leastByGp();
        samePlacesInAPass();
        passByPass();
        noneBecomesGreater();
        settling();
        settlingInRounds();
        settlingInManyRounds();
        goneOnesStay();
        due.end();
    }

    /** A call whose label stands where the call does: the constant is then the distance. */
    private static int leastCall(int distance, boolean two) {
        ShrinkLayout x = new ShrinkLayout();
        x.base(1048576);
        x.part(0, 0);
        x.label();
        x.call(0, 0, distance, two);
        x.put(0, 0, 0);
        return x.piece(0, 4);
    }

    private static void leastCalls() {
        int[][] rows = {
            {0, 2, 4}, {2046, 2, 4}, {2048, 4, 4}, {-2048, 2, 4}, {-2050, 4, 4}, {1, 8, 8}, {-1, 8, 8}, {2045, 8, 8},
            {1048574, 4, 4}, {1048576, 8, 8}, {-1048576, 4, 4}, {-1048578, 8, 8}, {1048573, 8, 8},
            {Integer.MIN_VALUE, 8, 8}, {Integer.MAX_VALUE, 8, 8}};
        for (int[] row : rows) {
            due.is("call with two by " + row[0], leastCall(row[0], true), row[1]);
            due.is("call without two by " + row[0], leastCall(row[0], false), row[2]);
        }
    }

    /** A load whose label is at 0, with output 2, and so GP, far away: the constant is the aim. */
    private static int leastLoad(int sort, int aim, boolean two) {
        ShrinkLayout x = new ShrinkLayout();
        x.part(0, 0);
        x.label();
        x.plain(0, 4194304);
        x.put(0, 0, 0);
        return x.piece(sort == 2 ? x.upper(0, 0, aim, two) : x.near(0, 0, aim), 4);
    }

    private static void leastLoads() {
        int[][] rows = {
            {-2048, 0, 0}, {2047, 0, 0}, {0, 0, 0}, {-2049, 4, 4}, {2048, 2, 4}, {129023, 2, 4}, {129024, 4, 4},
            {-6144, 4, 4}, {65536, 2, 4}, {Integer.MIN_VALUE, 4, 4}, {Integer.MAX_VALUE, 4, 4}};
        for (int[] row : rows) {
            due.is("upper with two, aim " + row[0], leastLoad(2, row[0], true), row[1]);
            due.is("upper without two, aim " + row[0], leastLoad(2, row[0], false), row[2]);
            due.is("near, aim " + row[0], leastLoad(3, row[0], false), row[2]);
        }
    }

    private static void leastByGp() {
        ShrinkLayout x = new ShrinkLayout();
        x.base(1048576);
        x.part(2, 12);
        x.label();
        x.plain(0, 5000);
        x.part(3, 0);
        x.near(1, 0, 0);
        x.upper(1, 0, 0, true);
        x.align(2, 12);
        int[][] rows = {{0, 0}, {4095, 0}, {4096, 4}, {5000, 4}};
        for (int[] row : rows) {
            x.put(0, 0, row[0]);
            due.is("near by GP at " + row[0], x.piece(1, 4), row[1]);
            due.is("upper by GP at " + row[0], x.piece(2, 4), row[1]);
        }
        x.near(1, 0, -1);
        x.put(0, 0, 0);
        due.is("near just below GP's reach", x.piece(3, 4), 4);
        x.base(1048575);
        due.is("GP is by where output 2 begins", x.output(2, 0), 1048576);
        x.align(2, 0);
        due.is("output 2 begins ahead of its part", x.piece(3, 4), 0);
        x.part(1, 0);
        x.plain(2, 10000);
        x.put(0, 4, 0);
        due.is("where output 1 begins tells nothing", x.piece(1, 4), 4);
        x.put(0, 4, 10000);
        due.is("where output 2 begins does", x.piece(1, 4), 0);
    }

    /** The label at the first call's end must not move before the second call has been looked at. */
    private static void samePlacesInAPass() {
        ShrinkLayout x = afterACall(2044, 0);
        due.is("backwards: distance", x.aim(2) - x.piece(2, 3), -2044);
        due.is("backwards: both", x.pass(), 2);
        due.is("backwards: within reach of 2 as the pass began", x.piece(2, 2), 2);
        due.is("backwards: holds", x.holds(), -1);

        ShrinkLayout y = afterACall(8, 2058);
        due.is("forwards: distance", y.aim(2) - y.piece(2, 3), 2050);
        due.is("forwards: both", y.pass(), 2);
        due.is("forwards: out of reach of 2 as the pass began", y.piece(2, 2), 4);
        due.is("forwards: still out of reach", y.pass(), 0);
    }

    /** A call that shrinks to 2, n bytes, and a call that aims at the first one's end and a constant. */
    private static ShrinkLayout afterACall(int n, int constant) {
        ShrinkLayout x = new ShrinkLayout();
        x.part(0, 0);
        x.label();
        x.label();
        x.call(0, 0, 0, true);
        x.plain(0, n);
        x.call(0, 1, constant, true);
        x.put(0, 0, 0);
        x.put(1, 0, 1);
        return x;
    }

    private static void passByPass() {
        ShrinkLayout x = chain(6);
        due.is("the last one alone", x.pass(), 1);
        due.is("it is the last", x.piece(5, 2), 2);
        due.is("the one ahead not yet", x.piece(4, 2), 4);
        due.is("then the one ahead", x.pass(), 1);
        due.is("saved so far", x.saved(), 6 * 4 + 2 * 2);
        due.is("the others, and one pass for nothing", x.shrink(), 5);
        due.is("all are 2", x.saved(), 6 * 6);
        due.is("nothing more", x.shrink(), 1);
        x.reset();
        due.is("reset: nothing is saved", x.saved(), 0);
        due.is("reset: greatest size", x.piece(0, 2), 8);
        due.is("all again", x.shrink(), 8);
        due.is("all hold", x.holds(), -1);
        due.is("settle fixes none", x.settle(), 0);
        ShrinkLayout y = chain(255);
        due.is("a long chain", y.shrink(), 255 + 1);
        due.is("a long chain's bytes", y.saved(), 255 * 6);
    }

    /** Calls of 4 bytes that come within reach of 2 bytes one by one, the last one first. */
    private static ShrinkLayout chain(int calls) {
        ShrinkLayout x = new ShrinkLayout();
        x.part(0, 0);
        x.label();
        for (int i = 0; i < calls; i++) {
            // With all calls of 4 bytes, 2 bytes too far for each call that stands behind this one.
            int distance = 2046 + 2 * (calls - 1 - i);
            x.call(0, 0, distance - 4 * (calls - i), true);
        }
        x.put(0, x.plain(0, 1), 0);
        due.is("a first pass makes all of them 4", x.pass(), calls);
        return x;
    }

    private static void noneBecomesGreater() {
        ShrinkLayout x = new ShrinkLayout();
        x.part(0, 0);
        x.label();
        x.call(0, 0, 0, true);
        x.near(0, 0, 0);
        x.upper(0, 0, 0, true);
        x.plain(0, 4194304);
        x.put(0, 3, 0);
        due.is("all three", x.pass(), 3);
        due.is("call is 2", x.piece(0, 2), 2);
        due.is("near is 0", x.piece(1, 2), 0);
        due.is("upper is 0", x.piece(2, 2), 0);
        due.is("saved", x.saved(), 14);
        x.put(0, 3, 4194304);
        due.is("far: call's least", x.piece(0, 4), 8);
        due.is("far: no pass changes", x.pass(), 0);
        due.is("far: call stays", x.piece(0, 2), 2);
        due.is("far: none was fixed", x.piece(0, 5), 0);
        due.is("far: the first that doesn't hold", x.holds(), 0);
        x.put(0, 0, 0);
        due.is("near: holds", x.holds(), -1);
        x.label();
        x.put(0, 3, 6144);
        due.is("call at 6146 doesn't hold", x.holds(), 0);
        due.is("three are taken back", x.settle(), 3);
        due.is("greatest: call", x.piece(0, 2), 8);
        due.is("greatest: near", x.piece(1, 2), 4);
        due.is("greatest: upper", x.piece(2, 2), 4);
        due.is("fixed: call", x.piece(0, 5), 1);
        due.is("fixed: near", x.piece(1, 5), 1);
        due.is("fixed: upper", x.piece(2, 5), 1);
        due.is("fixed: plain never", x.piece(3, 5), 0);
        due.is("least of a fixed one", x.piece(0, 4), 4);
        due.is("a fixed one stays", x.pass(), 0);
        due.is("settled: once only", x.settle(), 0);
        x.reset();
        due.is("reset: fixed no more", x.piece(0, 5), 0);
        due.is("reset: passes make smaller again", x.pass(), 2);
        due.is("reset: upper by its page", x.piece(2, 2), 2);
    }

    /** As the first call shrinks, the fill grows and drives the second call's label away from it. */
    private static ShrinkLayout drivenApart() {
        ShrinkLayout x = new ShrinkLayout();
        x.part(0, 0);
        x.label();
        x.label();
        x.call(0, 0, 0, false);
        x.call(0, 1, 0, true);
        x.plain(0, 2030);
        x.fill(0, 4, 15);
        x.plain(0, 100);
        x.put(0, 4, 0);
        x.put(1, 4, 0);
        return x;
    }

    private static void settling() {
        ShrinkLayout x = drivenApart();
        due.is("fill ends at", x.value(1), 2048);
        due.is("second call's least", x.piece(1, 4), 2);
        due.is("passes", x.shrink(), 2);
        due.is("sizes", x.piece(0, 2) * 10 + x.piece(1, 2), 42);
        due.is("fill ends at", x.value(1), 2048);
        due.is("all hold: d is 2044 by now", x.holds(), -1);
        ShrinkLayout y = drivenApart();
        y.put(1, 4, 6);
        due.is("d is 2046", y.aim(1) - y.piece(1, 3), 2046);
        due.is("settle fixes one", y.settle(), 1);
        due.is("it is the second call", y.piece(1, 5), 1);
        due.is("with its greatest size", y.piece(1, 2), 8);
        due.is("though less would do", y.piece(1, 4), 4);
        due.is("the first is not fixed", y.piece(0, 5), 0);
        due.is("the first is 4", y.piece(0, 2), 4);
        due.is("all hold", y.holds(), -1);
        due.is("saved", y.saved(), 4);
        due.is("shrink keeps it", y.shrink(), 1);
        due.is("settle again fixes none", y.settle(), 0);
        y.reset();
        due.is("reset: not fixed", y.piece(1, 5), 0);
        due.is("the same without settling: passes", y.shrink(), 2);
        due.is("the second doesn't hold", y.holds(), 1);
        due.is("it is not fixed", y.piece(1, 5), 0);
        due.is("its size", y.piece(1, 2), 2);
        due.is("its least", y.piece(1, 4), 4);
    }

    /** Taking one call back drives another apart, which is found only by the places after that. */
    private static void settlingInRounds() {
        ShrinkLayout x = new ShrinkLayout();
        x.part(0, 0);
        x.label();
        x.label();
        x.call(0, 0, 0, true);
        x.call(0, 1, 0, true);
        x.plain(0, 3000);
        x.put(0, 2, 2000);
        x.put(1, 2, 2000);
        due.is("both shrink", x.shrink(), 2);
        due.is("both are 2", x.saved(), 12);
        x.put(1, 2, 2100);
        x.put(0, 2, 2040);
        due.is("only the second doesn't hold", x.holds(), 1);
        due.is("the first does by now", x.piece(0, 4), 2);
        due.is("but not once the second is great", x.settle(), 2);
        due.is("both are 8", x.saved(), 0);
        due.is("both are fixed", x.piece(0, 5) + x.piece(1, 5), 2);
    }

    /** Each call that is taken back drives the one ahead of it, and none else, out of reach. */
    private static void settlingInManyRounds() {
        int calls = 200;
        ShrinkLayout x = new ShrinkLayout();
        x.part(0, 0);
        x.label();
        for (int i = 0; i < calls; i++) {
            int behind = calls - 1 - i;
            x.call(0, 0, 2048 - 6 * behind - 2 * (calls - i), true);
        }
        int end = x.plain(0, 0);
        x.put(0, 0, 0);
        due.is("all shrink", x.shrink() > 1, true);
        due.is("all are 2", x.saved(), 6 * calls);
        x.put(0, end, 0);
        due.is("the last one doesn't hold", x.holds(), calls - 1);
        due.is("all are taken back", x.settle(), calls);
        due.is("nothing is saved", x.saved(), 0);
        due.is("the first is fixed", x.piece(0, 5), 1);
        due.is("all hold", x.holds(), -1);
    }

    private static void goneOnesStay() {
        ShrinkLayout x = new ShrinkLayout();
        x.part(0, 0);
        x.part(0, 0);
        x.label();
        x.call(0, 0, 0, true);
        x.call(1, 0, 0, true);
        x.plain(0, 4);
        x.put(0, 2, 0);
        x.root(0, true);
        x.sweep();
        due.is("a pass over the one that is there", x.pass(), 1);
        due.is("saved there", x.saved(), 6);
        x.back();
        due.is("the other's size stayed", x.piece(1, 2), 8);
        due.is("saved", x.saved(), 6);
        due.is("now it shrinks", x.pass(), 1);
        due.is("saved of both", x.saved(), 12);
        x.sweep();
        due.is("saved without the gone one", x.saved(), 6);
        x.plain(1, 0);
        x.label();
        x.call(0, 1, 0, true);
        x.put(1, 3, 0);
        due.is("no aim at a gone part: greatest", x.piece(4, 4), 8);
        x.put(0, 3, 0);
        due.is("a shrunk one without an aim doesn't hold", x.holds(), 0);
        due.is("the gone one isn't fixed", x.settle(), 1);
        due.is("it stays unfixed", x.piece(1, 5), 0);
        x.back();
        due.is("gone one's size stayed", x.piece(1, 2), 2);
        x.root(0, false);
        due.is("all are gone", x.sweep(), 2);
        due.is("gone: fixed is told", x.piece(0, 5), 1);
        due.is("gone: all hold", x.holds(), -1);
        due.is("gone: no pass changes", x.pass(), 0);
        due.is("gone: nothing saved", x.saved(), 0);
        x.reset();
        x.back();
        due.is("reset is for gone ones too: fixed", x.piece(0, 5), 0);
        due.is("reset is for gone ones too: size", x.piece(1, 2), 8);
    }
}
