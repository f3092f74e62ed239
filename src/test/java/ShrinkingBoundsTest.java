/** Promises 15 to 19 and 26 at their bounds: pass, shrink, settle, reset, holds, saved; and the LEAST sizes. */
public final class ShrinkingBoundsTest {
    private static final Due due = new Due();
    private static final Unchanged empty = Made.empty(due);
    private static final Unchanged mixed = Made.mixed(due);
    private static final Unchanged full = Made.full(due);

    public static void main(String[] args) {
        promise15Calls();
        promise15CallsByPlaces();
        promise15Loads();
        promise15LoadsByGp();
        promise15GpWithoutParts();
        promise15WithoutAnAim();
        promise15Counts();
        promise15OnlyThoseThatMay();
        promise15ByThePlacesAtItsBeginning();
        promise16();
        promise16LongChain();
        promise16LongestRun();
        promise17None();
        promise17BySamePlaces();
        promise17ShrinksAgain();
        promise17InRounds();
        promise17FixedStay();
        promise17Full();
        promise18();
        promise19();
        promise19Edges();
        promise26();
        due.end();
    }

    /** A call by a label at the call itself: the constant is d, before and after the pass. */
    private static void promise15Calls() {
        int[][] rows = {
            // d, size with two, size without
            {-2052, 4, 4}, {-2050, 4, 4}, {-2049, 8, 8}, {-2048, 2, 4}, {-2047, 8, 8}, {-2046, 2, 4},
            {-2, 2, 4}, {-1, 8, 8}, {0, 2, 4}, {1, 8, 8}, {2, 2, 4},
            {2044, 2, 4}, {2045, 8, 8}, {2046, 2, 4}, {2047, 8, 8}, {2048, 4, 4}, {2049, 8, 8}, {2050, 4, 4},
            {-1048580, 8, 8}, {-1048578, 8, 8}, {-1048577, 8, 8}, {-1048576, 4, 4}, {-1048575, 8, 8}, {-1048574, 4, 4},
            {1048572, 4, 4}, {1048573, 8, 8}, {1048574, 4, 4}, {1048575, 8, 8}, {1048576, 8, 8}, {1048578, 8, 8},
            {Integer.MIN_VALUE, 8, 8}, {Integer.MAX_VALUE, 8, 8}, {Integer.MAX_VALUE - 1, 8, 8}};
        for (int[] row : rows) {
            for (int base : new int[] {0, 1, 1048576}) {
                for (int i = 0; i < 2; i++) {
                    ShrinkLayout x = new ShrinkLayout();
                    x.base(base);
                    x.part(0, 0);
                    x.label();
                    x.call(0, 0, row[0], i == 0);
                    x.put(0, 0, 0);
                    String name = "promise 15: a call" + (i == 0 ? " with TWO" : "") + ", d " + row[0] + ", at " + base;
                    passed(name, x, 0, row[1 + i], 8);
                }
            }
        }
    }

    /** A pass over one piece: its LEAST size before, the count, and its size after. */
    private static void passed(String name, ShrinkLayout x, int piece, int least, int greatest) {
        due.is(name + ": size at first", x.piece(piece, 2), greatest);
        due.is(name + ": least size", x.piece(piece, 4), least);
        due.is(name + ": pass()", x.pass(), least < greatest ? 1 : 0);
        due.is(name + ": size", x.piece(piece, 2), least);
        due.is(name + ": saved()", x.saved(), greatest - least);
        due.is(name + ": not fixed by a pass", x.piece(piece, 5), 0);
    }

    private static void promise15CallsByPlaces() {
        int[][] behind = {{2046, 2}, {2048, 2}, {2049, 8}, {2050, 4}, {1048576, 4}, {1048578, 8}, {4194304, 8}};
        for (int[] row : behind) {
            ShrinkLayout x = new ShrinkLayout();
            x.part(0, 0);
            x.label();
            x.plain(0, row[0]);
            x.call(0, 0, 0, true);
            x.put(0, 0, 0);
            passed("promise 15: a call " + row[0] + " bytes behind its label", x, 1, row[1], 8);
        }
        int[][] ahead = {{2036, 2}, {2038, 2}, {2039, 8}, {2040, 4}, {1048566, 4}, {1048568, 8}, {4194304, 8}};
        for (int[] row : ahead) {
            ShrinkLayout x = new ShrinkLayout();
            x.part(0, 0);
            x.label();
            x.call(0, 0, 0, true);
            x.plain(0, row[0]);
            x.put(0, 1, row[0]);
            passed("promise 15: a call " + row[0] + " and its own 8 bytes ahead of its label", x, 0, row[1], 8);
        }
    }

    /** GP is far away here: the aim alone counts. */
    private static void promise15Loads() {
        int[][] rows = {
            // aim, size of an upper with two, of others
            {-6144, 4, 4}, {-4096, 4, 4}, {-2050, 4, 4}, {-2049, 4, 4}, {-2048, 0, 0}, {-2047, 0, 0}, {-1, 0, 0},
            {0, 0, 0}, {2046, 0, 0}, {2047, 0, 0}, {2048, 2, 4}, {2049, 2, 4}, {6143, 2, 4}, {6144, 2, 4},
            {124927, 2, 4}, {124928, 2, 4}, {129022, 2, 4}, {129023, 2, 4}, {129024, 4, 4}, {129025, 4, 4},
            {131072, 4, 4}, {1048576, 4, 4}, {Integer.MIN_VALUE, 4, 4}, {Integer.MAX_VALUE, 4, 4}};
        for (int[] row : rows) {
            for (int i = 0; i < 3; i++) {
                ShrinkLayout x = new ShrinkLayout();
                x.part(0, 0);
                x.part(1, 0);
                x.label();
                x.plain(0, 0);
                x.plain(1, 4194304);
                x.put(0, 0, 0);
                Made.aimed(x, i == 2 ? 3 : 2, 0, 0, row[0], i == 0);
                String name = "promise 15: " + (i == 2 ? "a near" : i == 0 ? "an upper with TWO" : "an upper");
                passed(name + ", aim " + row[0], x, 2, row[i == 0 ? 1 : 2], 4);
            }
        }
    }

    /** The label is where OUTPUT 2 begins, far from 0: the constant counts from there. */
    private static void promise15LoadsByGp() {
        int[][] rows = {
            {-2048, 4}, {-2, 4}, {-1, 4}, {0, 0}, {1, 0}, {2047, 0}, {2048, 0}, {4094, 0}, {4095, 0}, {4096, 4}, {4097, 4}};
        for (int[] row : rows) {
            for (int sort = 2; sort <= 3; sort++) {
                for (int power : new int[] {0, 12}) {
                    ShrinkLayout x = new ShrinkLayout();
                    x.base(1048575);
                    x.align(2, power);
                    x.part(2, 0);
                    x.part(3, 0);
                    x.label();
                    x.plain(0, 3);
                    x.put(0, 0, 0);
                    Made.aimed(x, sort, 1, 0, row[0], true);
                    due.is("promise 15: output 2 begins", x.output(2, 0), power == 0 ? 1048575 : 1048576);
                    passed("promise 15: sort " + sort + ", " + row[0] + " from output 2 on", x, 1, row[1], 4);
                }
            }
        }
        ShrinkLayout page = new ShrinkLayout();
        page.base(126976);
        page.part(3, 0);
        page.label();
        page.plain(0, 0);
        page.put(0, 0, 0);
        page.upper(0, 0, -1, true);
        page.upper(0, 0, 0, true);
        due.is("promise 15: just out of GP's reach, yet in a page's", page.piece(1, 4), 2);
        due.is("promise 15: 0 goes ahead of 2", page.piece(2, 4), 0);
    }

    private static void promise15GpWithoutParts() {
        ShrinkLayout x = new ShrinkLayout();
        x.base(1048576);
        x.part(1, 0);
        x.part(2, 4);
        x.part(3, 0);
        x.label();
        x.plain(0, 3);
        x.plain(1, 10);
        x.near(2, 0, -1);
        x.put(0, 0, 3);
        due.is("promise 15: output 2 begins ahead of its part", x.output(2, 0), 1048579);
        due.is("promise 15: one below where output 2 begins", x.piece(2, 4), 4);
        x.put(0, 1, 0);
        due.is("promise 15: where its part begins", x.value(0), 1048592);
        due.is("promise 15: one below that", x.piece(2, 4), 0);
        x.root(0, true);
        x.root(2, true);
        x.put(0, 0, 3);
        due.is("promise 15: output 2's part goes", x.sweep(), 1);
        due.is("promise 15: output 2 begins as before", x.output(2, 0), 1048579);
        due.is("promise 15: still one below", x.piece(2, 4), 4);
        x.near(2, 0, 0);
        due.is("promise 15: still where it begins", x.piece(3, 4), 0);
        x.near(2, 0, 4095);
        due.is("promise 15: the last in reach", x.piece(4, 4), 0);
        x.near(2, 0, 4096);
        due.is("promise 15: the first out of reach", x.piece(5, 4), 4);
    }

    private static void promise15WithoutAnAim() {
        ShrinkLayout x = new ShrinkLayout();
        x.part(0, 0);
        x.part(0, 0);
        x.label();
        x.call(0, 0, 0, true);
        x.upper(0, 0, 0, true);
        x.near(0, 0, 0);
        x.plain(1, 2);
        due.is("promise 15: a label at no piece", x.pass(), 0);
        due.is("promise 15: greatest sizes", x.piece(0, 4) * 100 + x.piece(1, 4) * 10 + x.piece(2, 4), 844);
        x.put(0, 3, 2);
        x.part(0, 0);
        x.call(2, 0, 0, true);
        x.root(2, true);
        x.root(0, true);
        due.is("promise 15: what leads keeps the part", x.sweep(), 0);
        x.put(0, 0, 0);
        x.sweep();
        x.put(0, 3, 2);
        due.is("promise 15: a label in a gone part", x.pass(), 0);
        due.is("promise 15: greatest sizes", x.piece(0, 4) * 100 + x.piece(1, 4) * 10 + x.piece(2, 4), 844);
        x.back();
        due.is("promise 15: once it is back", x.pass(), 4);
    }

    private static void promise15Counts() {
        empty.after("promise 15: an empty object", x -> x.pass(), 0);
        ShrinkLayout plain = Made.pieces(256);
        due.is("promise 15: plain pieces alone", plain.pass(), 0);
        ShrinkLayout x = nears(256);
        due.is("promise 15: all of a full object", x.pass(), 256);
        due.is("promise 15: none twice", x.pass(), 0);
        ShrinkLayout y = new ShrinkLayout();
        y.base(1);
        y.part(0, 0);
        y.label();
        y.call(0, 0, 0, true);
        y.fill(0, 3, 7);
        y.put(0, 0, 0);
        due.is("promise 15: a fill's bytes", y.piece(1, 2), 7);
        due.is("promise 15: from 8 to 2 counts one, and the fill that follows none", y.pass(), 1);
        due.is("promise 15: the fill is smaller", y.piece(1, 2), 5);
        due.is("promise 15: the call is 2", y.piece(0, 2), 2);
    }

    /** Nears that aim at 0, so that a pass makes each of them 0. */
    private static ShrinkLayout nears(int count) {
        ShrinkLayout x = new ShrinkLayout();
        x.part(0, 0);
        x.label();
        for (int i = 0; i < count; i++) {
            x.near(0, 0, 0);
        }
        x.put(0, 0, 0);
        return x;
    }

    private static void promise15OnlyThoseThatMay() {
        ShrinkLayout x = new ShrinkLayout();
        for (int i = 0; i < 3; i++) {
            x.part(0, 0);
            x.label();
            x.call(i, i, 0, true);
            x.put(i, i, 0);
        }
        x.root(0, true);
        due.is("promise 15: two are gone", x.sweep(), 2);
        due.is("promise 15: the one that is there", x.pass(), 1);
        x.back();
        due.is("promise 15: gone ones kept their sizes", x.piece(1, 2) + x.piece(2, 2), 16);
        x.put(0, x.plain(0, 4194304), 4194304);
        due.is("promise 15: none becomes greater", x.pass(), 2);
        due.is("promise 15: though it doesn't hold", x.piece(0, 2) * 10 + x.piece(0, 4), 28);
        due.is("promise 15: it is taken back by settling", x.settle(), 1);
        x.put(0, 0, 0);
        due.is("promise 15: it could be 2", x.piece(0, 4), 2);
        due.is("promise 15: but is fixed", x.pass(), 0);
        due.is("promise 15: so it stays", x.piece(0, 2), 8);
    }

    /** The second call comes within reach of 2 only when the first has become smaller. */
    private static void promise15ByThePlacesAtItsBeginning() {
        ShrinkLayout x = new ShrinkLayout();
        x.part(0, 0);
        x.label();
        x.call(0, 0, 0, true);
        x.plain(0, 2042);
        x.call(0, 0, 0, true);
        x.put(0, 0, 0);
        due.is("promise 15: d of the second", x.aim(2) - x.piece(2, 3), -2050);
        due.is("promise 15: both", x.pass(), 2);
        due.is("promise 15: the second by the places of the beginning", x.piece(2, 2), 4);
        due.is("promise 15: the second again", x.pass(), 1);
        due.is("promise 15: now 2", x.piece(2, 2), 2);
        due.is("promise 15: no more", x.pass(), 0);
    }

    private static void promise16() {
        empty.after("promise 16: an empty object", x -> x.shrink(), 1);
        ShrinkLayout x = nears(256);
        due.is("promise 16: one pass that changes, one that doesn't", x.shrink(), 2);
        due.is("promise 16: none that changes", x.shrink(), 1);
        due.is("promise 16: all are 0", x.output(0, 1), 0);
        ShrinkLayout y = Made.full();
        y.shrink();
        due.is("promise 16: no pass is left to make", y.pass(), 0);
        due.is("promise 16: nothing is fixed", y.piece(1, 5), 0);
    }

    /** Each call but the last is 2 bytes too far from its label until the one behind it has become 2. */
    private static void promise16LongChain() {
        for (int calls : new int[] {1, 2, 3, 255}) {
            ShrinkLayout x = new ShrinkLayout();
            x.part(0, 0);
            x.label();
            for (int i = 0; i < calls; i++) {
                int behind = calls - 1 - i;
                x.call(0, 0, 2046 + 2 * behind - 4 * (behind + 1), true);
            }
            x.put(0, x.plain(0, 0), 0);
            String name = "promise 16: a chain of " + calls;
            due.is(name + ": all become 4, then one after the other 2", x.shrink(), calls + 2);
            due.is(name + ": where it ends", x.output(0, 1), 2 * calls);
            due.is(name + ": all hold", x.holds(), -1);
        }
    }

    /**
     * Uppers that come down to 129,023, where 2 bytes do, one by one, and then, one by one again, to where
     * GP reaches: no run can need more passes, for none changes more often than twice.
     */
    private static void promise16LongestRun() {
        for (int uppers : new int[] {1, 2, 256}) {
            int base = 129023 - 4095 - 2 * uppers;
            ShrinkLayout x = new ShrinkLayout();
            x.base(base);
            x.part(3, 0);
            x.label();
            for (int i = 0; i < uppers; i++) {
                x.upper(0, 0, 129023 - (base + 4 * uppers) + 2 * i, true);
            }
            x.put(0, uppers - 1, 1);
            String name = "promise 16: the longest run of " + uppers;
            due.is(name, x.shrink(), 2 * uppers + 1);
            due.is(name + ": all are 0", x.saved(), 4 * uppers);
            x.reset();
            due.is(name + ": the first pass", x.pass(), 1);
            due.is(name + ": the first piece alone", x.piece(0, 2) + x.saved(), 4);
            due.is(name + ": settled", x.settle(), 0);
            due.is(name + ": all are 0 again", x.output(3, 1), base);
        }
    }

    private static void promise17None() {
        empty.after("promise 17: an empty object", x -> x.settle(), 0);
        ShrinkLayout x = nears(256);
        due.is("promise 17: all hold", x.settle(), 0);
        due.is("promise 17: it has shrunk them", x.saved(), 1024);
        ShrinkLayout plain = Made.pieces(256);
        due.is("promise 17: plain pieces alone", plain.settle(), 0);
        ShrinkLayout gone = Made.mixed();
        gone.root(0, false);
        gone.root(1, false);
        gone.sweep();
        due.is("promise 17: all parts are gone", gone.settle(), 0);
        gone.back();
        due.is("promise 17: the one that didn't hold stayed", gone.piece(0, 5), 0);
        due.is("promise 17: it doesn't hold still", gone.holds(), 0);
    }

    /** Two calls of 2 bytes, n bytes, and a fill that takes up what the calls give and take. */
    private static ShrinkLayout aheadOfAFill(int n) {
        ShrinkLayout x = new ShrinkLayout();
        x.part(0, 0);
        x.label();
        x.label();
        x.call(0, 0, 0, true);
        x.call(0, 1, 0, true);
        x.plain(0, n);
        x.fill(0, 4, 15);
        x.plain(0, 4194304);
        x.put(0, 0, 0);
        return x;
    }

    private static void promise17BySamePlaces() {
        ShrinkLayout x = aheadOfAFill(2032);
        x.put(1, 1, 0);
        due.is("promise 17: both are 2", x.shrink() + x.saved(), 14);
        x.put(0, 4, 4194304);
        x.put(1, 4, 2);
        due.is("promise 17: the first doesn't hold", x.piece(0, 4), 8);
        due.is("promise 17: nor does the second, by 2 bytes", x.aim(1) - x.piece(1, 3), 2048);
        due.is("promise 17: both are fixed, by the same places", x.settle(), 2);
        due.is("promise 17: fixed", x.piece(0, 5) * 10 + x.piece(1, 5), 11);
        due.is("promise 17: greatest sizes", x.piece(0, 2) * 10 + x.piece(1, 2), 88);
        due.is("promise 17: the fill gave way", x.value(1), 2050);
    }

    private static void promise17ShrinksAgain() {
        ShrinkLayout x = aheadOfAFill(2032);
        due.is("promise 17: the first becomes 2", x.shrink() + x.piece(0, 2), 4);
        x.put(1, 4, 6);
        due.is("promise 17: the second becomes 4", x.shrink() + x.piece(1, 2), 6);
        due.is("promise 17: d of the second", x.aim(1) - x.piece(1, 3), 2052);
        x.put(0, 4, 4194304);
        due.is("promise 17: the first is taken back", x.settle(), 1);
        due.is("promise 17: which brings the second near", x.piece(1, 2), 2);
        due.is("promise 17: first and second", x.piece(0, 5) * 10 + x.piece(1, 5), 10);
        due.is("promise 17: all hold", x.holds(), -1);
    }

    /** Each call that is taken back drives the one ahead of it, and none else, out of reach. */
    private static void promise17InRounds() {
        for (int calls : new int[] {1, 2, 3, 256}) {
            ShrinkLayout x = new ShrinkLayout();
            x.part(0, 0);
            x.label();
            for (int i = 0; i < calls; i++) {
                int behind = calls - 1 - i;
                x.call(0, 0, 2048 - 6 * behind - 2 * (behind + 1), true);
            }
            x.put(0, 0, 0);
            String name = "promise 17: rounds for " + calls;
            due.is(name + ": all are 2", x.shrink() > 1 ? x.saved() : 0, 6 * calls);
            x.put(0, calls - 1, 1);
            due.is(name + ": the last doesn't hold", x.holds(), calls - 1);
            due.is(name, x.settle(), calls);
            due.is(name + ": nothing is saved", x.saved(), 0);
            due.is(name + ": the first is fixed", x.piece(0, 5), 1);
            due.is(name + ": all hold", x.holds(), -1);
        }
    }

    private static void promise17FixedStay() {
        ShrinkLayout x = aheadOfAFill(0);
        x.put(1, 1, 0);
        x.shrink();
        x.put(0, 4, 4194304);
        due.is("promise 17: one becomes fixed", x.settle(), 1);
        due.is("promise 17: none becomes so again", x.settle(), 0);
        x.put(0, 0, 0);
        due.is("promise 17: nor when all is near", x.settle(), 0);
        due.is("promise 17: it is so still", x.piece(0, 5), 1);
        due.is("promise 17: with its greatest size", x.piece(0, 2), 8);
        due.is("promise 17: the other may be", x.piece(1, 5), 0);
        x.put(1, 4, 4194304);
        due.is("promise 17: only the new one counts", x.settle(), 1);
        x.sweep();
        due.is("promise 17: fixed, though gone", x.piece(0, 5) + x.piece(1, 5), 2);
        x.back();
        due.is("promise 17: fixed still", x.piece(0, 5) + x.piece(1, 5), 2);
    }

    private static void promise17Full() {
        ShrinkLayout x = nears(255);
        due.is("promise 17: all are 0", x.shrink(), 2);
        x.put(0, x.plain(0, 4194304), 2048);
        due.is("promise 17: an aim of 2048, none holds", x.holds(), 0);
        x.base(1048576);
        x.put(0, 255, 4194304);
        x.align(2, 12);
        x.part(1, 0);
        x.part(2, 0);
        due.is("promise 17: a label at the end is where output 2 begins", x.output(2, 0) - x.value(0), 0);
        x.put(0, 255, 4194303);
        due.is("promise 17: one byte ahead none holds", x.holds(), 0);
        due.is("promise 17: all are taken back", x.settle(), 255);
        due.is("promise 17: the last, too", x.piece(254, 5), 1);
        due.is("promise 17: nothing is saved", x.saved(), 0);
    }

    private static void promise18() {
        empty.after("promise 18: an empty object", x -> reset(x), 0);
        ShrinkLayout x = Made.mixed();
        x.reset();
        int[] sizes = {8, 2, 40, 4, 4, 6000, -1, 8, 4, -1};
        for (int i = 0; i < sizes.length; i++) {
            due.is("promise 18: size of piece " + i, x.piece(i, 2), sizes[i]);
            due.is("promise 18: piece " + i + " isn't fixed", x.piece(i, 5), 0);
        }
        due.is("promise 18: nothing is saved", x.saved(), 0);
        due.is("promise 18: all hold", x.holds(), -1);
        due.is("promise 18: what is gone stays so", x.span(3, 3), 1);
        due.is("promise 18: roots stay", x.span(0, 4), 1);
        due.is("promise 18: the base stays", x.output(0, 0), 1001);
        x.back();
        due.is("promise 18: gone ones have their greatest size, too", x.piece(6, 2) * 10 + x.piece(9, 2), 88);
        due.is("promise 18: what was fixed can shrink", x.pass() > 0 ? x.piece(7, 2) : 0, 4);
        ShrinkLayout y = nears(256);
        y.shrink();
        y.reset();
        due.is("promise 18: a full object", y.output(0, 1), 1024);
        y.reset();
        due.is("promise 18: twice is once", y.output(0, 1), 1024);
    }

    private static long reset(ShrinkLayout x) {
        x.reset();
        return 0;
    }

    private static void promise19() {
        empty.after("promise 19: an empty object", x -> x.holds(), -1);
        mixed.after("promise 19: asking changes nothing", x -> x.holds(), 0);
        full.after("promise 19: nor in a full one", x -> x.holds(), Made.full().holds());
        ShrinkLayout x = new ShrinkLayout();
        x.part(1, 0);
        x.part(0, 0);
        x.label();
        for (int i = 0; i < 4; i++) {
            x.call(i % 2, 0, 0, true);
        }
        x.put(0, 0, 0);
        due.is("promise 19: greater than least holds", x.holds(), -1);
        x.shrink();
        due.is("promise 19: just least holds", x.holds(), -1);
        x.put(0, x.plain(0, 4194304), 4194304);
        due.is("promise 19: the first by its number, not by its place", x.holds(), 0);
        due.is("promise 19: piece 1 is ahead of it", x.piece(1, 3) < x.piece(0, 3), true);
        x.root(1, true);
        due.is("promise 19: part 0 is led to", x.sweep(), 0);
        x.put(0, 1, 0);
        due.is("promise 19: part 0 goes", x.sweep(), 1);
        x.put(0, 4, 0);
        due.is("promise 19: the first of a part that is there, without an aim now", x.holds(), 1);
        x.root(1, false);
        x.sweep();
        due.is("promise 19: all are gone", x.holds(), -1);
    }

    /** A call of 2 bytes between plain ones, whose label then goes to the edges of what 2 bytes reach. */
    private static void promise19Edges() {
        int[][] rows = {
            // piece, at, d, the answer
            {2, 2044, 2046, -1}, {2, 2046, 2048, 1}, {2, 1, 3, 1}, {0, 952, -2048, -1}, {0, 950, -2050, 1}, {0, 2999, -1, 1}};
        for (int[] row : rows) {
            ShrinkLayout x = new ShrinkLayout();
            x.part(0, 0);
            x.label();
            x.plain(0, 3000);
            x.call(0, 0, 0, true);
            x.plain(0, 3000);
            x.put(0, 1, 0);
            x.shrink();
            x.put(0, row[0], row[1]);
            due.is("promise 19: d", x.aim(1) - x.piece(1, 3), row[2]);
            due.is("promise 19: d " + row[2], x.holds(), row[3]);
        }
    }

    private static void promise26() {
        empty.after("promise 26: an empty object", x -> x.saved(), 0);
        mixed.after("promise 26: asking changes nothing", x -> x.saved(), Made.mixed().saved());
        due.is("promise 26: at first", nears(256).saved(), 0);
        ShrinkLayout x = nears(256);
        x.pass();
        due.is("promise 26: all of a full object", x.saved(), 1024);
        due.is("promise 26: all are gone", x.sweep() + x.saved(), 1);
        x.back();
        due.is("promise 26: all are back", x.saved(), 1024);
        x.reset();
        due.is("promise 26: greatest sizes again", x.saved(), 0);
        ShrinkLayout y = new ShrinkLayout();
        y.part(0, 0);
        y.part(1, 0);
        y.label();
        y.label();
        y.plain(0, 4095);
        y.fill(0, 4, 15);
        y.call(0, 0, 0, true);
        y.call(0, 0, 0, false);
        y.upper(0, 0, 0, true);
        y.upper(1, 1, 0, true);
        y.put(0, 0, 4095);
        y.put(1, 0, 0);
        y.pass();
        due.is("promise 26: a fill's bytes and odd d save nothing: 0 + 0 + 2 + 4", y.saved(), 6);
        y.put(0, 1, 1);
        y.pass();
        due.is("promise 26: 6 + 4 + 2 + 4", y.saved(), 16);
        y.root(0, true);
        y.sweep();
        due.is("promise 26: without part 1", y.saved(), 12);
    }
}
