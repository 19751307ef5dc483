import java.io.IOException;
import java.nio.file.Files;
import java.nio.file.Path;
import java.util.ArrayList;
import java.util.List;
import java.util.regex.Matcher;
import java.util.regex.Pattern;

/**
 * Each sentence of the document that names a boundary case (too small, too large, empty, full, a wrap-around, a
 * refused call) has a test of its own. Here they are run; and it is looked whether each is the document's sentence,
 * and whether each refusal, each range and each number that the document tells has one.
 */
public final class EdgesTest {
    private static final int PROMISES = 40;
    /** How the document begins what is refused, and what is told of an edge in brackets. */
    private static final Pattern REFUSALS =
        Pattern.compile("(?:-\\d, )?(?:-\\d|NONE|Refused|NoSuchElementException)(?:: | for )[^;.:]*(?:\\.\\. ?[^;.:]*)*");
    private static final Pattern RANGES = Pattern.compile("-?\\d+ \\.\\. \\d+");
    private static final Pattern BOUNDS = Pattern.compile("\\d|NONE|Refused|NoSuchElementException: ");
    /** The numbers of the terms themselves. */
    private static final Pattern LABELS = Pattern.compile("(?:## Terms|```) [12]\\. ");

    public static void main(String[] args) throws IOException {
        Edges edges = new Edges();
        TermsEdges.tell(edges);
        ClockEdges.tell(edges);
        TimersEdges.tell(edges);
        ThereEdges.tell(edges);
        ComingEdges.tell(edges);
        PastEdges.tell(edges);
        for (Edges.Edge edge : edges.all()) {
            goes(edge);
        }
        Check.under("");
        looksAtDocument(edges, Files.readString(Path.of("../shared/DOC.md")));
        System.out.println(edges.all().size() + " edges");
        Check.close("EdgesTest");
    }

    private static void goes(Edges.Edge edge) {
        Check.under(edge.name());
        int before = Check.lookedAt();
        try {
            edge.test().run();
        } catch (RuntimeException e) {
            Check.fails("threw " + e);
        }
        if (Check.lookedAt() == before) {
            Check.fails("nothing is looked at");
        }
    }

    private static void looksAtDocument(Edges edges, String document) {
        List<String> parts = parts(document);
        Check.is("promises in the document", parts.size() - 1, PROMISES);
        for (Edges.Edge edge : edges.all()) {
            boolean stands = edge.promise() < parts.size() && parts.get(edge.promise()).contains(edge.sentence());
            Check.is("stands in the document: " + edge.name(), stands, true);
        }
        for (int promise = 1; promise < parts.size(); promise++) {
            looksFor(edges, promise, REFUSALS.matcher(parts.get(promise)));
            looksFor(edges, promise, RANGES.matcher(parts.get(promise)));
        }
        for (int promise = 0; promise < parts.size(); promise++) {
            String rest = notQuoted(edges, promise, parts.get(promise));
            Check.is("promise " + promise + ", no number and no refusal outside its edges: '" + rest + "'",
                BOUNDS.matcher(LABELS.matcher(rest).replaceAll("")).find(), false);
        }
    }

    /** What stands in no edge of a promise. */
    private static String notQuoted(Edges edges, int promise, String told) {
        StringBuilder rest = new StringBuilder(told);
        for (Edges.Edge edge : edges.all()) {
            int at = edge.promise() == promise ? told.indexOf(edge.sentence()) : -1;
            while (at >= 0) {
                for (int i = at; i < at + edge.sentence().length(); i++) {
                    rest.setCharAt(i, '|');
                }
                at = told.indexOf(edge.sentence(), at + 1);
            }
        }
        return rest.toString().replaceAll("\\|+", "|");
    }

    /** The terms, then each promise, each told in one line. */
    private static List<String> parts(String document) {
        List<String> parts = new ArrayList<>();
        int end = document.indexOf("## Not promised");
        String told = document.substring(document.indexOf("## Terms"), end < 0 ? document.length() : end);
        for (String part : told.split("## Promise \\d+: ")) {
            parts.add(part.replaceAll("\\s+", " "));
        }
        return parts;
    }

    private static void looksFor(Edges edges, int promise, Matcher told) {
        while (told.find()) {
            for (String words : told.group().replaceAll("\\),.*|\\)$", "").trim().split(", ")) {
                Check.is("promise " + promise + " has an edge for '" + words + "'", has(edges, promise, words), true);
            }
        }
    }

    private static boolean has(Edges edges, int promise, String words) {
        for (Edges.Edge edge : edges.all()) {
            if (edge.promise() == promise && edge.sentence().contains(words)) {
                return true;
            }
        }
        return false;
    }
}
