import java.util.ArrayList;
import java.util.List;
import java.util.function.IntUnaryOperator;

/**
 * A sentence of ../shared/DOC.md that names a boundary case, and the answers due there: each
 * message begins with the promise's number and the sentence.
 */
final class Edge {
    /** Stands for a promise's number where a sentence is one of the Terms, ahead of the promises. */
    static final int TERMS = 0;

    private static final int NULL = -1000011;
    private static final int PLACE = -1000012;
    private static final int KIND = -1000013;
    private static final int SIZE = -1000014;
    private static final int STORE = -1000015;
    private static final List<Edge> ALL = new ArrayList<>();

    final int promise;
    final String sentence;
    private int answers;

    private Edge(int promise, String sentence) {
        this.promise = promise;
        this.sentence = sentence;
    }

    static Edge of(int promise, String sentence) {
        Edge edge = new Edge(promise, sentence);
        ALL.add(edge);
        return edge;
    }

    static Edge ofTerms(String sentence) {
        return of(TERMS, sentence);
    }

    static List<Edge> all() {
        return ALL;
    }

    String name() {
        return (promise == TERMS ? "Terms" : "Promise " + promise) + ", \"" + sentence + "\"";
    }

    boolean hasAnswers() {
        return answers > 0;
    }

    void due(String call, long got, long want) {
        answers++;
        Check.due(name() + ": " + call, got, want);
    }

    void holds(String what, boolean is) {
        due(what, is ? 1 : 0, 1);
    }

    void dueAll(String calls, int[] got, int... want) {
        answers++;
        Check.dueAll(name() + ": " + calls, got, want);
    }

    void none(String call, int got) {
        due(call, got, -1000000);
    }

    void bad(String call, int got) {
        due(call, got, -1000001);
    }

    /** A call that is BAD with each of these numbers; # stands for the number in what is told. */
    void badFor(String call, int[] numbers, IntUnaryOperator answers) {
        for (int number : numbers) {
            bad(call.replace("#", String.valueOf(number)), answers.applyAsInt(number));
        }
    }

    void state(String call, int got) {
        due(call, got, -1000002);
    }

    void full(String call, int got) {
        due(call, got, -1000003);
    }

    void isNull(String call, int got) {
        due(call, got, NULL);
    }

    void place(String call, int got) {
        due(call, got, PLACE);
    }

    void kind(String call, int got) {
        due(call, got, KIND);
    }

    void size(String call, int got) {
        due(call, got, SIZE);
    }

    void store(String call, int got) {
        due(call, got, STORE);
    }

    /** A text that has a fault: where, which; the tape is empty then. */
    void fault(String text, int place, int number) {
        WindTaken x = new WindTaken();
        due("ridge() of '" + text + "'", Texts.read(x, text), -1000100 - place);
        due("fault() of '" + text + "'", x.fault(), number);
    }

    /** A text that has none: so many mills. */
    void reads(String text, int mills) {
        WindTaken x = new WindTaken();
        due("ridge() of '" + text + "'", Texts.read(x, text), mills);
        due("fault() of '" + text + "'", x.fault(), 0);
    }
}
