import java.util.ArrayList;
import java.util.List;
import java.util.function.ToIntFunction;

/**
 * The object under test, as all tests see it: no other class makes one. The document promises nothing
 * behind an object's 512th call, so none gets more: when an object has had them, a new one takes its
 * place and is brought to the same state by the calls that may have changed the old one. It must
 * answer these as the old one did.
 */
final class Subject {
    static final int BAD = LineExpander.BAD, NONE = LineExpander.NONE;
    static final int MOST_CALLS = 512;

    private LineExpander object = new LineExpander();
    private int calls = 0;
    private final List<ToIntFunction<LineExpander>> changes = new ArrayList<>();
    private final List<Integer> answers = new ArrayList<>();

    int feed(int a, int b, int c, int d, int e) {
        return change(x -> x.feed(a, b, c, d, e));
    }

    int end(int n) {
        return change(x -> x.end(n));
    }

    int line() {
        return change(LineExpander::line);
    }

    int place() {
        return ask(LineExpander::place);
    }

    int field(int i) {
        return ask(x -> x.field(i));
    }

    int byteOf(int i, int k) {
        return ask(x -> x.byteOf(i, k));
    }

    int message(int k) {
        return ask(x -> x.message(k));
    }

    int value() {
        return change(LineExpander::value);
    }

    int parameter() {
        return change(LineExpander::parameter);
    }

    int shift(int n) {
        return change(x -> x.shift(n));
    }

    int mark(int what) {
        return change(x -> x.mark(what));
    }

    int strict(boolean is) {
        return change(x -> x.strict(is));
    }

    int user() {
        return change(LineExpander::user);
    }

    int make(int kind) {
        return change(x -> x.make(kind));
    }

    int drop() {
        return change(LineExpander::drop);
    }

    int go() {
        return change(LineExpander::go);
    }

    int count(int what) {
        return ask(x -> x.count(what));
    }

    /** How many calls the object at hand has had. */
    int calls() {
        return calls;
    }

    /** How many more calls may change it, until no object could get them all. */
    int changesLeft() {
        return MOST_CALLS - changes.size();
    }

    private int change(ToIntFunction<LineExpander> call) {
        int answer = ask(call);
        changes.add(call);
        answers.add(answer);
        return answer;
    }

    private int ask(ToIntFunction<LineExpander> call) {
        if (calls >= MOST_CALLS) {
            renew();
        }
        calls++;
        return call.applyAsInt(object);
    }

    private void renew() {
        if (changes.size() >= MOST_CALLS) {
            throw new IllegalStateException("a test asks for more than " + MOST_CALLS + " calls of one object");
        }
        object = new LineExpander();
        calls = changes.size();
        for (int i = 0; i < calls; i++) {
            int again = changes.get(i).applyAsInt(object);
            if (again != answers.get(i)) {
                Bench.same("call " + i + " on a new object", again, answers.get(i));
            }
        }
    }
}
