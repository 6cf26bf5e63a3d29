import java.util.function.Consumer;
import java.util.function.ToLongFunction;

/** Looks at all of an object that its calls tell, and asks whether two objects are alike. */
final class Look {
    private static final int MOST = 400;
    private final long[] answers = new long[MOST];
    private int size = 0;

    private Look() {
    }

    /** Uses up the object: at the end its images are restored. Takes some 200 calls. */
    static Look at(KineticCup x) {
        Look look = new Look();
        look.days(x);
        look.now(x);
        for (int image = 0; image < 2; image++) {
            look.note(x.restore(image));
            look.now(x);
        }
        return look;
    }

    private void note(long answer) {
        answers[size] = answer;
        size++;
    }

    private void days(KineticCup x) {
        note(x.fault());
        note(x.judge(0));
        note(x.judge(1));
        for (int what = 0; what < 7; what++) {
            note(x.then(what));
        }
        for (int runner = 0; runner < 8; runner++) {
            note(x.behind(runner, 2));
            note(x.behind(runner, 3));
        }
    }

    private void now(KineticCup x) {
        for (int what = 0; what < 5; what++) {
            note(x.told(what));
        }
        for (int runner = 0; runner < 8; runner++) {
            for (int tens = 10; tens < 50; tens += 10) {
                note(x.told(tens + runner));
            }
            note(x.value(runner, 0, 1, 0));
        }
        for (int match = 1; match < 8; match++) {
            note(x.told(50 + match));
        }
        note(x.next(0));
        note(x.next(1));
        note(x.where());
        note(x.lines(-1));
        note(x.lines(0));
        note(x.ask(0));
    }

    boolean isLike(Look other) {
        boolean alike = size == other.size;
        for (int i = 0; i < size; i++) {
            alike &= answers[i] == other.answers[i];
        }
        return alike;
    }

    /** Whether a call on an object that was made ready changes nothing that can be told. */
    static boolean staysBy(Consumer<KineticCup> ready, ToLongFunction<KineticCup> call) {
        KineticCup called = new KineticCup();
        KineticCup left = new KineticCup();
        ready.accept(called);
        ready.accept(left);
        call.applyAsLong(called);
        return at(called).isLike(at(left));
    }
}
