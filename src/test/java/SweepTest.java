/** Promises 12 to 14: root, sweep, back. */
public final class SweepTest {
    private static final Due due = new Due();

    public static void main(String[] args) {
        roots();
        sweeps();
        allSortsLead();
        longestLead();
        due.end();
    }

    private static void roots() {
        ShrinkLayout x = new ShrinkLayout();
        x.part(0, 0);
        for (int wrong : new int[] {-1, 1, 32, Integer.MIN_VALUE, Integer.MAX_VALUE}) {
            due.is("root: no such part", x.root(wrong, true), false);
            due.is("root: no such part", x.root(wrong, false), false);
        }
        due.is("root: it is none", x.root(0, false), false);
        due.is("root: is none at first", x.span(0, 4), 0);
        due.is("root: becomes one", x.root(0, true), true);
        due.is("root: is one", x.span(0, 4), 1);
        due.is("root: it is so", x.root(0, true), false);
        due.is("root: is one still", x.span(0, 4), 1);
        due.is("root: none any more", x.root(0, false), true);
        due.is("root: is none", x.span(0, 4), 0);
        due.is("root: nothing goes by it", x.span(0, 3), 0);
    }

    private static void sweeps() {
        ShrinkLayout x = new ShrinkLayout();
        for (int i = 0; i < 4; i++) {
            x.part(i, 0);
            x.plain(i, 10);
            x.label();
        }
        x.call(0, 2, 0, false);
        x.call(2, 0, 0, false);
        x.call(3, 1, 0, false);
        x.put(1, 1, 0);
        x.put(0, 0, 10);
        due.is("sweep: without roots all go", x.sweep(), 4);
        due.is("sweep: nothing is laid out", x.output(3, 1), 0);
        x.root(0, true);
        due.is("sweep: a label at no piece leads nowhere", x.sweep(), 3);
        x.put(2, 2, 1);
        due.is("sweep: 0 and 2, which lead to each other", x.sweep(), 2);
        due.is("sweep: part 2 is there again", x.span(2, 3), 0);
        due.is("sweep: part 1 is gone", x.span(1, 3), 1);
        due.is("sweep: part 3 is gone", x.span(3, 3), 1);
        due.is("sweep: a value of a gone part", x.value(1), -1);
        due.is("sweep: again the same", x.sweep(), 2);
        due.is("sweep: a new part isn't gone", x.part(1, 0), 4);
        due.is("sweep: a new part isn't gone", x.span(4, 3), 0);
        due.is("sweep: till the next one", x.sweep(), 3);
        due.is("a piece for a gone part", x.plain(4, 6), 7);
        due.is("has no place", x.piece(7, 3), -1);
        due.is("a root that is gone stays gone", x.root(3, true), true);
        due.is("until a sweep", x.span(3, 3), 1);
        due.is("sweep: 3 leads to 1", x.sweep(), 1);
        due.is("sweep: 1 is there", x.value(1), 18);
        x.root(0, false);
        x.root(3, false);
        due.is("all but none", x.span(0, 3), 0);
        due.is("all", x.sweep(), 5);
        x.back();
        for (int i = 0; i < 5; i++) {
            due.is("back: there again", x.span(i, 3), 0);
        }
        due.is("back: piece of part 4", x.piece(7, 3), 28);
        x.back();
        due.is("back: nothing to do", x.span(0, 3), 0);
    }

    private static void allSortsLead() {
        ShrinkLayout x = new ShrinkLayout();
        for (int i = 0; i < 5; i++) {
            x.part(0, 0);
            x.plain(i, 1);
            x.label();
            x.put(i, i, 0);
        }
        x.root(0, true);
        x.call(0, 1, 0, false);
        x.upper(0, 2, 0, false);
        x.near(0, 3, 0);
        due.is("call, upper and near lead", x.sweep(), 1);
        due.is("4 is gone", x.span(4, 3), 1);
        x.put(1, 4, 1);
        due.is("a moved label leads elsewhere", x.sweep(), 1);
        due.is("1 is gone", x.span(1, 3), 1);
        due.is("4 is there", x.span(4, 3), 0);
    }

    /** The root is the last part, each leads to the one ahead of it, by pieces put in from the first on. */
    private static void longestLead() {
        ShrinkLayout x = new ShrinkLayout();
        for (int i = 0; i < 32; i++) {
            x.part(0, 0);
            x.label();
            if (i > 0) {
                x.near(i, i - 1, 0);
            } else {
                x.plain(0, 1);
            }
            x.put(i, i, 0);
        }
        x.root(31, true);
        due.is("all are led to", x.sweep(), 0);
        x.put(15, 0, 0);
        due.is("but for what the cut leaves out", x.sweep(), 15);
    }
}
