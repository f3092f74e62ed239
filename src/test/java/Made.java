/** Objects made ready for the tests of bounds. */
final class Made {
    private static final int[] ENDS = {Integer.MIN_VALUE, Integer.MAX_VALUE};

    private Made() {
    }

    static Unchanged empty(Due due) {
        return new Unchanged(due, ShrinkLayout::new, 0, 0, 0);
    }

    static Unchanged mixed(Due due) {
        return new Unchanged(due, Made::mixed, 4, 10, 5);
    }

    static Unchanged full(Due due) {
        return new Unchanged(due, Made::full, 32, 256, 64);
    }

    /** Some numbers, and the least and the greatest int behind them. */
    static int[] andEnds(int... numbers) {
        int[] all = new int[numbers.length + ENDS.length];
        System.arraycopy(numbers, 0, all, 0, numbers.length);
        System.arraycopy(ENDS, 0, all, numbers.length, ENDS.length);
        return all;
    }

    /** Parts that are there and one that is GONE, pieces fixed, shrunk, short and not holding. */
    static ShrinkLayout mixed() {
        ShrinkLayout x = new ShrinkLayout();
        x.base(1001);
        x.align(1, 3);
        x.align(2, 5);
        for (int i = 0; i < 4; i++) {
            x.part(i, 3 - i);
        }
        for (int i = 0; i < 5; i++) {
            x.label();
        }
        x.call(0, 0, 0, true);
        x.fill(0, 4, 2);
        x.plain(0, 40);
        x.upper(1, 1, 0, true);
        x.near(1, 2, 4);
        x.plain(2, 6000);
        x.call(3, 0, 0, false);
        x.call(0, 3, 0, true);
        x.near(0, 4, 0);
        x.call(3, 3, 0, true);
        x.put(0, 2, 10);
        x.put(1, 5, 100);
        x.put(2, 3, 1);
        x.put(3, 2, 40);
        x.shrink();
        x.put(3, 5, 6000);
        x.settle();
        x.put(0, 5, 5000);
        x.root(0, true);
        x.root(1, true);
        x.sweep();
        return x;
    }

    /** 32 parts, 64 labels and 256 pieces of all sorts, by 400 calls. */
    static ShrinkLayout full() {
        ShrinkLayout x = new ShrinkLayout();
        for (int i = 0; i < 32; i++) {
            x.part(i % 4, i % 5);
        }
        for (int i = 0; i < 64; i++) {
            x.label();
        }
        for (int i = 0; i < 256; i++) {
            piece(x, i % 5, i % 32, i % 64);
        }
        for (int i = 0; i < 47; i++) {
            x.put(i, 5 * i + i % 5, 1);
        }
        x.pass();
        return x;
    }

    /** One part, one label, and plain pieces of a byte each. */
    static ShrinkLayout pieces(int count) {
        ShrinkLayout x = new ShrinkLayout();
        x.part(0, 0);
        x.label();
        for (int i = 0; i < count; i++) {
            x.plain(0, 1);
        }
        return x;
    }

    /** A new piece of a sort. */
    static int piece(ShrinkLayout x, int sort, int part, int label) {
        switch (sort) {
            case 0:
                return x.plain(part, 7);
            case 4:
                return x.fill(part, 3, 5);
            default:
                return aimed(x, sort, part, label, 0, true);
        }
    }

    /** A new CALL (1), UPPER (2) or NEAR (3). */
    static int aimed(ShrinkLayout x, int sort, int part, int label, int constant, boolean two) {
        switch (sort) {
            case 1:
                return x.call(part, label, constant, two);
            case 2:
                return x.upper(part, label, constant, two);
            default:
                return x.near(part, label, constant);
        }
    }
}
