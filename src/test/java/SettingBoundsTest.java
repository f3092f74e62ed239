/** Promises 10 to 14 at their bounds: base, align, root, sweep, back. */
public final class SettingBoundsTest {
    private static final Due due = new Due();
    private static final Unchanged empty = Made.empty(due);
    private static final Unchanged mixed = Made.mixed(due);
    private static final Unchanged full = Made.full(due);

    public static void main(String[] args) {
        promise10();
        promise10MovesAll();
        promise11Refused();
        promise11Taken();
        promise11BehindAnother();
        promise12Refused();
        promise12Taken();
        promise13EmptyAndFull();
        promise13Leads();
        promise13LeadsNowhere();
        promise13Again();
        promise13LeavesSizes();
        promise14();
        promise14NewParts();
        due.end();
    }

    private static void promise10() {
        for (int b : Made.andEnds(-1, 1048577)) {
            empty.after("promise 10: base(" + b + ")", x -> x.base(b) ? 1 : 0, 0);
            mixed.after("promise 10: base(" + b + ")", x -> x.base(b) ? 1 : 0, 0);
        }
        ShrinkLayout x = new ShrinkLayout();
        due.is("promise 10: 0 at first", x.output(0, 0), 0);
        for (int b : new int[] {1048576, 1048576, 1048575, 1, 0, 0}) {
            due.is("promise 10: base(" + b + ")", x.base(b), true);
            due.is("promise 10: -1 behind it", x.base(-1), false);
            due.is("promise 10: 1048577 behind it", x.base(1048577), false);
            due.is("promise 10: output 0 begins at " + b, x.output(0, 0), b);
            due.is("promise 10: output 3 ends at " + b, x.output(3, 1), b);
        }
    }

    private static void promise10MovesAll() {
        ShrinkLayout x = Made.pieces(2);
        x.put(0, 1, 1);
        x.near(0, 0, 0);
        x.base(1048576);
        due.is("promise 10: a part", x.span(0, 1), 1048576);
        due.is("promise 10: a piece", x.piece(1, 3), 1048577);
        due.is("promise 10: a label", x.value(0), 1048578);
        due.is("promise 10: an aim", x.aim(2), 1048578);
        due.is("promise 10: the last output", x.output(3, 1), 1048582);
    }

    private static void promise11Refused() {
        for (int output : Made.andEnds(-1, 4)) {
            for (int power : new int[] {0, 12}) {
                String name = "promise 11: align(" + output + ", " + power + ")";
                empty.after(name, x -> x.align(output, power) ? 1 : 0, 0);
                mixed.after(name, x -> x.align(output, power) ? 1 : 0, 0);
            }
        }
        for (int power : Made.andEnds(-1, 13, 31, 32, 44, -32, -20)) {
            for (int output : new int[] {0, 1, 2, 3}) {
                String name = "promise 11: align(" + output + ", " + power + ")";
                mixed.after(name, x -> x.align(output, power) ? 1 : 0, 0);
            }
        }
    }

    private static void promise11Taken() {
        for (int output = 0; output < 4; output++) {
            for (int power = 0; power <= 12; power++) {
                int alignment = 1 << power;
                ShrinkLayout x = new ShrinkLayout();
                String name = "promise 11: align(" + output + ", " + power + ")";
                due.is(name, x.align(output, power), true);
                due.is(name + " again", x.align(output, power), true);
                for (int base : new int[] {0, 1, alignment - 1, alignment, alignment + 1, 1048575, 1048576}) {
                    x.base(base);
                    int multiple = (base + alignment - 1) / alignment * alignment;
                    due.is(name + " from " + base, x.output(output, 0), multiple);
                    due.is(name + ": without a part it ends there", x.output(output, 1), multiple);
                    due.is(name + ": output 0", x.output(0, 0), output == 0 ? multiple : base);
                    due.is(name + ": output 3", x.output(3, 0), multiple);
                }
                x.base(1);
                due.is(name + ": then 1 again", x.align(output, 0), true);
                due.is(name + ": begins at 1", x.output(output, 0), 1);
            }
        }
    }

    private static void promise11BehindAnother() {
        ShrinkLayout x = new ShrinkLayout();
        x.part(0, 0);
        x.part(1, 0);
        x.plain(0, 4096);
        x.plain(1, 4095);
        x.align(1, 12);
        x.align(2, 12);
        due.is("promise 11: the end ahead is a multiple", x.output(1, 0), 4096);
        due.is("promise 11: the next multiple", x.output(2, 0), 8192);
        x.plain(1, 1);
        due.is("promise 11: just reached", x.output(2, 0), 8192);
        x.plain(1, 1);
        due.is("promise 11: passed", x.output(2, 0), 12288);
        due.is("promise 11: output 1 ends where its part does", x.output(1, 1), 8193);
    }

    private static void promise12Refused() {
        for (int part : Made.andEnds(-1, 4, 31, 32)) {
            mixed.after("promise 12: root(" + part + ", true)", x -> x.root(part, true) ? 1 : 0, 0);
            mixed.after("promise 12: root(" + part + ", false)", x -> x.root(part, false) ? 1 : 0, 0);
        }
        mixed.after("promise 12: it is one", x -> x.root(0, true) ? 1 : 0, 0);
        mixed.after("promise 12: it is none", x -> x.root(2, false) ? 1 : 0, 0);
        mixed.after("promise 12: a gone one is none", x -> x.root(3, false) ? 1 : 0, 0);
        full.after("promise 12: full: root(32, true)", x -> x.root(32, true) ? 1 : 0, 0);
        full.after("promise 12: full: none is one at first", x -> x.root(31, false) ? 1 : 0, 0);
    }

    private static void promise12Taken() {
        ShrinkLayout x = Made.full();
        for (int part : new int[] {0, 31}) {
            String name = "promise 12: part " + part;
            due.is(name + " is none at first", x.span(part, 4), 0);
            due.is(name + " becomes one", x.root(part, true), true);
            due.is(name + " is one", x.span(part, 4), 1);
            due.is(name + " is so", x.root(part, true), false);
            due.is(name + " is none any more", x.root(part, false), true);
            due.is(name + " is none", x.span(part, 4), 0);
            due.is(name + " is so", x.root(part, false), false);
            due.is(name + " may become one again", x.root(part, true), true);
        }
        due.is("promise 12: the others are none", x.span(1, 4) + x.span(30, 4), 0);
        ShrinkLayout y = Made.mixed();
        due.is("promise 12: a gone part becomes one", y.root(3, true), true);
        due.is("promise 12: it is one", y.span(3, 4), 1);
        due.is("promise 12: it stays gone", y.span(3, 3), 1);
        due.is("promise 12: it is there once swept", y.sweep(), 0);
        due.is("promise 12: none any more", y.root(3, false), true);
        due.is("promise 12: it stays there", y.span(3, 3), 0);
    }

    private static void promise13EmptyAndFull() {
        due.is("promise 13: an empty object", new ShrinkLayout().sweep(), 0);
        ShrinkLayout x = new ShrinkLayout();
        for (int i = 0; i < 32; i++) {
            x.part(i % 4, 0);
            x.plain(i, 1);
        }
        due.is("promise 13: no roots", x.sweep(), 32);
        for (int i = 0; i < 32; i++) {
            due.is("promise 13: part " + i + " is gone", x.span(i, 3), 1);
            due.is("promise 13: part " + i + " begins nowhere", x.span(i, 1), -1);
        }
        due.is("promise 13: nothing is laid out", x.output(3, 1), 0);
        for (int i = 31; i >= 0; i--) {
            x.root(i, true);
            due.is("promise 13: roots from " + i + " on", x.sweep(), i);
        }
        due.is("promise 13: all are laid out", x.output(3, 1), 32);
        due.is("promise 13: again", x.sweep(), 0);
    }

    /** 32 parts that each lead to the next one, by a piece's end, the last one to the first. */
    private static ShrinkLayout ring(int sort, boolean forwards) {
        ShrinkLayout x = new ShrinkLayout();
        for (int i = 0; i < 32; i++) {
            x.part(0, 0);
            x.label();
            Made.aimed(x, sort, i, i, 0, true);
        }
        for (int i = 0; i < 32; i++) {
            x.put(i, forwards ? (i + 1) % 32 : (i + 31) % 32, 1);
        }
        return x;
    }

    private static void promise13Leads() {
        for (int sort = 1; sort <= 3; sort++) {
            for (int root : new int[] {0, 15, 31}) {
                ShrinkLayout x = ring(sort, true);
                x.root(root, true);
                due.is("promise 13: a ring from " + root + " by sort " + sort, x.sweep(), 0);
                ShrinkLayout y = ring(sort, false);
                y.root(root, true);
                due.is("promise 13: a ring backwards from " + root + " by sort " + sort, y.sweep(), 0);
            }
        }
        ShrinkLayout x = ring(1, true);
        due.is("promise 13: a ring without a root", x.sweep(), 32);
        x.root(7, true);
        x.put(30, 30, 0);
        due.is("promise 13: from 7 to 30, which leads to itself", x.sweep(), 8);
        due.is("promise 13: part 30 is there", x.span(30, 3), 0);
        due.is("promise 13: part 31 is gone, though it leads to 0", x.span(31, 3), 1);
        due.is("promise 13: part 6 is gone, though it leads to a root", x.span(6, 3), 1);
        x.put(7, 7, 1);
        due.is("promise 13: a root that leads to itself alone", x.sweep(), 31);
    }

    private static void promise13LeadsNowhere() {
        ShrinkLayout x = new ShrinkLayout();
        for (int i = 0; i < 3; i++) {
            x.part(0, 0);
            x.label();
        }
        x.plain(0, 4);
        x.fill(0, 2, 3);
        x.plain(1, 4);
        x.call(1, 2, 0, false);
        x.call(2, 1, 0, false);
        x.put(0, 2, 0);
        x.put(1, 2, 4);
        x.put(2, 4, 0);
        x.root(0, true);
        due.is("promise 13: plain and fill lead nowhere, 1 and 2 only to each other", x.sweep(), 2);
        x.near(0, x.label(), 0);
        due.is("promise 13: a label at no piece leads nowhere", x.sweep(), 2);
        x.put(3, 0, 4);
        due.is("promise 13: to itself", x.sweep(), 2);
        x.put(3, 2, 4);
        due.is("promise 13: to a part that was gone, and on from there", x.sweep(), 0);
        x.put(3, 0, 0);
        due.is("promise 13: a label that came away leads there no more", x.sweep(), 2);
    }

    private static void promise13Again() {
        ShrinkLayout x = Made.mixed();
        due.is("promise 13: the same again", x.sweep(), 1);
        x.root(1, false);
        due.is("promise 13: nothing goes before a sweep", x.span(1, 3), 0);
        due.is("promise 13: then it does", x.sweep(), 2);
        due.is("promise 13: part 1 is gone", x.span(1, 3), 1);
        due.is("promise 13: its label has no value", x.value(2), -1);
        due.is("promise 13: a label of part 2 has one", x.value(1) > 0, true);
        x.root(1, true);
        due.is("promise 13: and comes back by a sweep", x.sweep(), 1);
        due.is("promise 13: part 1 is there", x.span(1, 3), 0);
        due.is("promise 13: its label has a value", x.value(2) > 0, true);
        due.is("promise 13: roots are as they were", x.span(0, 4) * 10 + x.span(1, 4), 11);
    }

    private static void promise13LeavesSizes() {
        ShrinkLayout x = Made.mixed();
        x.root(0, false);
        x.root(1, false);
        int[] sizes = new int[10];
        for (int i = 0; i < 10; i++) {
            sizes[i] = x.piece(i, 2);
        }
        due.is("promise 13: all go", x.sweep(), 4);
        due.is("promise 13: a fixed piece is so when gone", x.piece(7, 5), 1);
        x.root(0, true);
        x.root(1, true);
        due.is("promise 13: three come back", x.sweep(), 1);
        for (int i = 0; i < 10; i++) {
            due.is("promise 13: size of piece " + i, x.piece(i, 2), sizes[i]);
        }
    }

    private static void promise14() {
        empty.after("promise 14: an empty object", x -> back(x), 0);
        full.after("promise 14: when none is gone", x -> back(x), 0);
        ShrinkLayout x = new ShrinkLayout();
        for (int i = 0; i < 32; i++) {
            x.part(0, 0);
        }
        x.label();
        x.call(31, 0, 0, true);
        x.call(31, 0, 0, true);
        x.put(0, 1, 0);
        due.is("promise 14: both shrink", x.settle() + x.saved(), 12);
        x.label();
        x.call(31, 1, 0, true);
        x.put(1, 2, 0);
        x.pass();
        x.put(1, x.plain(31, 4194304), 4194304);
        due.is("promise 14: one is fixed", x.settle(), 1);
        x.root(0, true);
        due.is("promise 14: all but one go", x.sweep(), 31);
        due.is("promise 14: nothing saved", x.saved(), 0);
        x.back();
        for (int i = 0; i < 32; i++) {
            due.is("promise 14: part " + i + " is there", x.span(i, 3), 0);
            due.is("promise 14: part " + i + " as a root", x.span(i, 4), i == 0 ? 1 : 0);
        }
        due.is("promise 14: sizes stay", x.piece(0, 2) * 100 + x.piece(1, 2) * 10 + x.piece(2, 2), 228);
        due.is("promise 14: fixed ones stay", x.piece(2, 5), 1);
        due.is("promise 14: saved as before", x.saved(), 12);
        due.is("promise 14: the next sweep is as the last", x.sweep(), 31);
    }

    private static long back(ShrinkLayout x) {
        x.back();
        return 0;
    }

    private static void promise14NewParts() {
        ShrinkLayout x = new ShrinkLayout();
        for (int i = 0; i < 31; i++) {
            x.part(0, 0);
        }
        due.is("promise 14: all are gone", x.sweep(), 31);
        due.is("promise 14: a new one", x.part(2, 0), 31);
        due.is("promise 14: never is", x.span(31, 3), 0);
        due.is("promise 14: it begins", x.span(31, 1), 0);
        due.is("promise 14: a refused one brings none back", x.part(0, 0), -1);
        due.is("promise 14: the others stay gone", x.span(30, 3), 1);
        due.is("promise 14: the next sweep takes it", x.sweep(), 32);
        x.back();
        due.is("promise 14: all are there", x.span(0, 3) + x.span(30, 3) + x.span(31, 3), 0);
    }
}
