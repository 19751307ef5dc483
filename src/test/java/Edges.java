import java.util.ArrayList;
import java.util.List;

/**
 * The edges: sentences of the document that name a boundary case, word for word, each with the promise it stands in
 * (0: the terms, ahead of promise 1) and a test of its own.
 */
final class Edges {
    static final int TERMS = 0;

    record Edge(int promise, String sentence, Runnable test) {
        String name() {
            return (promise == TERMS ? "terms" : "promise " + promise) + ", '" + sentence + "'";
        }
    }

    private final List<Edge> all = new ArrayList<>();

    void edge(int promise, String sentence, Runnable test) {
        all.add(new Edge(promise, sentence, test));
    }

    List<Edge> all() {
        return all;
    }
}
