/** Promises 10, 11 and 20 to 25: base, align, lacks, piece, aim, value, span, output. */
public final class PlacesTest {
    private static final int[] WRONG = {-1, Integer.MIN_VALUE, Integer.MAX_VALUE};
    private static final Due due = new Due();

    public static void main(String[] args) {
        bases();
        aligns();
        outputsInOrder();
        partsInOrder();
        lacking();
        wrongQuestions();
        aims();
        due.end();
    }

    private static void bases() {
        ShrinkLayout x = new ShrinkLayout();
        due.is("base: most", x.base(1048576), true);
        for (int wrong : WRONG) {
            due.is("base: wrong", x.base(wrong), false);
        }
        due.is("base: too much", x.base(1048577), false);
        due.is("base: refused ones change nothing", x.output(0, 0), 1048576);
        due.is("base: the outputs behind", x.output(3, 1), 1048576);
        due.is("base: the same again", x.base(1048576), true);
        due.is("base: 0", x.base(0), true);
        due.is("base: back at 0", x.output(0, 0), 0);
    }

    private static void aligns() {
        ShrinkLayout x = new ShrinkLayout();
        x.base(5);
        for (int wrong : WRONG) {
            due.is("align: wrong output", x.align(wrong, 1), false);
            due.is("align: wrong power", x.align(0, wrong), false);
        }
        due.is("align: output 4", x.align(4, 1), false);
        due.is("align: power 13", x.align(0, 13), false);
        due.is("align: refused ones change nothing", x.output(0, 0), 5);
        due.is("align: output 1", x.align(1, 3), true);
        due.is("align: output 3", x.align(3, 12), true);
        due.is("align: 0 begins", x.output(0, 0), 5);
        due.is("align: 1 begins", x.output(1, 0), 8);
        due.is("align: 2 begins", x.output(2, 0), 8);
        due.is("align: 3 begins", x.output(3, 0), 4096);
        due.is("align: 0", x.align(0, 4), true);
        due.is("align: 0 begins", x.output(0, 0), 16);
        due.is("align: 0 ends", x.output(0, 1), 16);
        due.is("align: the same again", x.align(0, 4), true);
        due.is("align: taken back", x.align(0, 0), true);
        due.is("align: 0 begins", x.output(0, 0), 5);
    }

    private static void outputsInOrder() {
        ShrinkLayout x = new ShrinkLayout();
        x.part(3, 0);
        x.part(1, 2);
        x.part(0, 0);
        x.plain(0, 30);
        x.plain(1, 20);
        x.plain(2, 10);
        x.plain(0, 3);
        due.is("output 0 ends", x.output(0, 1), 10);
        due.is("output 1 begins", x.output(1, 0), 10);
        due.is("its part begins", x.span(1, 1), 12);
        due.is("output 1 ends", x.output(1, 1), 32);
        due.is("output 2 begins", x.output(2, 0), 32);
        due.is("output 2 ends", x.output(2, 1), 32);
        due.is("output 3 begins", x.output(3, 0), 32);
        due.is("output 3 ends", x.output(3, 1), 65);
        due.is("a piece behind another of its part", x.piece(3, 3), 62);
        for (int wrong : WRONG) {
            due.is("output: wrong output", x.output(wrong, 0), -1);
            due.is("output: wrong what", x.output(0, wrong), -1);
        }
        due.is("output: 4", x.output(4, 0), -1);
        due.is("output: what 2", x.output(0, 2), -1);
    }

    private static void partsInOrder() {
        ShrinkLayout x = new ShrinkLayout();
        x.base(3);
        x.part(0, 3);
        x.part(0, 1);
        x.part(0, 4);
        x.plain(2, 1);
        x.plain(0, 5);
        x.plain(1, 1);
        due.is("part 0 begins", x.span(0, 1), 8);
        due.is("part 0 ends", x.span(0, 2), 13);
        due.is("part 1 begins", x.span(1, 1), 14);
        due.is("part 1 ends", x.span(1, 2), 15);
        due.is("part 2 begins", x.span(2, 1), 16);
        due.is("part 2 ends", x.span(2, 2), 17);
        x.root(0, true);
        x.root(2, true);
        due.is("one is gone", x.sweep(), 1);
        due.is("part 1 begins nowhere", x.span(1, 1), -1);
        due.is("part 1 ends nowhere", x.span(1, 2), -1);
        due.is("part 1's output", x.span(1, 0), 0);
        due.is("part 1 is gone", x.span(1, 3), 1);
        due.is("part 1 is no root", x.span(1, 4), 0);
        due.is("part 2 is a root", x.span(2, 4), 1);
        due.is("part 2 begins behind part 0", x.span(2, 1), 16);
        due.is("piece of a gone part: sort", x.piece(2, 0), 0);
        due.is("piece of a gone part: part", x.piece(2, 1), 1);
        due.is("piece of a gone part: size", x.piece(2, 2), -1);
        due.is("piece of a gone part: place", x.piece(2, 3), -1);
        due.is("piece of a gone part: least", x.piece(2, 4), -1);
        due.is("piece of a gone part: fixed", x.piece(2, 5), 0);
        due.is("a part in which nothing is", x.part(0, 5), 3);
        due.is("it begins", x.span(3, 1), 32);
        due.is("it ends", x.span(3, 2), 32);
        due.is("the output ends with it", x.output(0, 1), 32);
    }

    private static void lacking() {
        ShrinkLayout x = new ShrinkLayout();
        x.part(0, 0);
        x.part(0, 0);
        x.fill(1, 4, 7);
        x.plain(0, 9);
        x.fill(0, 4, 6);
        due.is("lacks: the first by its number", x.lacks(), 2);
        due.is("its size", x.piece(2, 2), 6);
        due.is("the other's size", x.piece(0, 2), 1);
        x.base(16);
        due.is("lacks: as before", x.lacks(), 2);
        x.base(17);
        due.is("lacks: enough", x.lacks(), -1);
        x.base(0);
        x.root(1, true);
        x.sweep();
        due.is("lacks: not of a gone part", x.lacks(), -1);
        x.base(1);
        due.is("lacks: the one that is there", x.lacks(), 0);
        x.base(9);
        due.is("lacks: just enough", x.lacks(), -1);
        due.is("just enough: size", x.piece(0, 2), 7);
        x.base(0);
        due.is("lacks: nothing", x.lacks(), -1);
        due.is("nothing: size", x.piece(0, 2), 0);
    }

    private static void wrongQuestions() {
        ShrinkLayout x = new ShrinkLayout();
        x.part(2, 0);
        x.label();
        x.plain(0, 1);
        for (int wrong : new int[] {-1, 1, 32, 64, 256, Integer.MIN_VALUE, Integer.MAX_VALUE}) {
            due.is("piece: no such one", x.piece(wrong, 0), -1);
            due.is("span: no such one", x.span(wrong, 0), -1);
            due.is("aim: no such one", x.aim(wrong), ShrinkLayout.NOTHING);
            due.is("value: no such one", x.value(wrong), -1);
        }
        for (int wrong : WRONG) {
            due.is("piece: no such what", x.piece(0, wrong), -1);
            due.is("span: no such what", x.span(0, wrong), -1);
        }
        due.is("piece: what 6", x.piece(0, 6), -1);
        due.is("span: what 5", x.span(0, 5), -1);
        due.is("span: its output", x.span(0, 0), 2);
    }

    private static void aims() {
        ShrinkLayout x = new ShrinkLayout();
        x.base(1000);
        x.part(0, 0);
        x.part(1, 0);
        x.label();
        x.label();
        x.plain(0, 24);
        x.fill(0, 10, 100);
        x.near(1, 0, -2000);
        x.upper(0, 1, 7, false);
        due.is("aim: a plain one has none", x.aim(0), ShrinkLayout.NOTHING);
        due.is("aim: a fill has none", x.aim(1), ShrinkLayout.NOTHING);
        due.is("aim: none without a value", x.aim(2), ShrinkLayout.NOTHING);
        x.put(0, 0, 20);
        due.is("aim: below 0", x.aim(2), -980);
        x.put(1, 2, 1);
        due.is("value: a near's end", x.value(1), 1032);
        due.is("aim: with its constant", x.aim(3), 1039);
        x.put(0, 3, 0);
        due.is("value: moved", x.value(0), 1024);
        x.root(1, true);
        x.sweep();
        due.is("value: what is led to stays", x.value(0), 1024);
        x.put(0, 2, 0);
        x.sweep();
        due.is("value: in the part that stays", x.value(1), 1004);
        due.is("aim: of a gone part's piece", x.aim(3), 1011);
        x.put(0, 0, 0);
        due.is("value: none in a gone part", x.value(0), -1);
        due.is("aim: none at a gone part", x.aim(2), ShrinkLayout.NOTHING);
    }
}
