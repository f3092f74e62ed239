import java.util.ArrayList;
import java.util.List;
import java.util.function.Supplier;

/**
 * Checks that a call answers as due and changes nothing: all questions answer with it what they answer
 * without it, at once and after each of some further deeds.
 */
final class Unchanged {
    interface Call {
        long on(ShrinkLayout x);
    }

    /** An object is good for 512 calls, so the questions are shared out among objects made alike. */
    private static final int QUESTIONS_OF_ONE_OBJECT = 80;

    private static final List<Call> DEEDS = List.of(
            x -> 0,
            x -> x.pass(),
            x -> x.settle(),
            x -> x.sweep(),
            Unchanged::back,
            Unchanged::reset,
            Unchanged::makeMore);

    private final Due due;
    private final Supplier<ShrinkLayout> made;
    private final List<Call> questions = new ArrayList<>();
    private final List<Long> before;

    Unchanged(Due due, Supplier<ShrinkLayout> made, int parts, int pieces, int labels) {
        this.due = due;
        this.made = made;
        askAll(parts, pieces, labels);
        this.before = answersAfter(x -> 0);
    }

    void after(String name, Call call, long answer) {
        due.is(name, call.on(made.get()), answer);
        due.is(name + ": changes nothing", answersAfter(call).equals(before), true);
    }

    void after(String name, Call call) {
        after(name, call, ShrinkLayout.NONE);
    }

    private List<Long> answersAfter(Call call) {
        List<Long> answers = new ArrayList<>();
        for (Call deed : DEEDS) {
            for (int from = 0; from < questions.size(); from += QUESTIONS_OF_ONE_OBJECT) {
                ShrinkLayout x = made.get();
                call.on(x);
                answers.add(deed.on(x));
                int to = Math.min(from + QUESTIONS_OF_ONE_OBJECT, questions.size());
                for (Call question : questions.subList(from, to)) {
                    answers.add(question.on(x));
                }
            }
        }
        return answers;
    }

    /** One number beyond the last of each is asked for too, so that one too many is seen. */
    private void askAll(int parts, int pieces, int labels) {
        questions.add(x -> x.holds());
        questions.add(x -> x.lacks());
        questions.add(x -> x.saved());
        for (int output = 0; output < 4; output++) {
            int asked = output;
            questions.add(x -> x.output(asked, 0));
            questions.add(x -> x.output(asked, 1));
        }
        for (int part = 0; part <= parts; part++) {
            for (int what = 0; what < 5; what++) {
                int asked = part;
                int of = what;
                questions.add(x -> x.span(asked, of));
            }
        }
        for (int piece = 0; piece <= pieces; piece++) {
            int asked = piece;
            questions.add(x -> x.aim(asked));
            for (int what = 0; what < 6; what++) {
                int of = what;
                questions.add(x -> x.piece(asked, of));
            }
        }
        for (int label = 0; label <= labels; label++) {
            int asked = label;
            questions.add(x -> x.value(asked));
        }
    }

    private static long back(ShrinkLayout x) {
        x.back();
        return 0;
    }

    private static long reset(ShrinkLayout x) {
        x.reset();
        return 0;
    }

    private static long makeMore(ShrinkLayout x) {
        long part = x.part(1, 2);
        long label = x.label();
        long plain = x.plain(0, 3);
        long near = x.near(0, 0, 0);
        long put = x.put(0, 0, 1) ? 1 : 0;
        return (((part * 1000 + label) * 1000 + plain) * 1000 + near) * 1000 + put;
    }
}
