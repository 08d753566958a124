import java.util.ArrayList;
import java.util.List;

/** The document's words about its edges, each with the run of calls that is held against it. */
final class Edges {
    private final Document document;
    private final List<Due> dues = new ArrayList<>();
    private final List<List<String>> told = new ArrayList<>();

    Edges(Document document) {
        this.document = document;
        for (int promise = 0; promise <= Document.PROMISES; promise++) {
            told.add(new ArrayList<>());
        }
    }

    /** A run of its own for these words of a promise (0: of what stands ahead of promise 1). */
    Run says(int promise, String words) {
        Due due = new Due("promise " + promise + ", \"" + words + "\"");
        due.is("the document says so", document.says(promise, words) ? 1 : 0, 1);
        dues.add(due);
        told.get(promise).add(words);
        return new Run(due);
    }

    /** Each promise has runs for all of its clauses that name an edge. */
    private Due allAreTold() {
        Due due = new Due("EdgesTest");
        for (int promise = 1; promise <= Document.PROMISES; promise++) {
            List<String> words = told.get(promise);
            due.is("promise " + promise + " has a run", words.isEmpty() ? 0 : 1, 1);
            for (String edge : document.edgesOf(promise)) {
                boolean has = words.stream().anyMatch(w -> w.contains(edge));
                due.is("promise " + promise + " has a run for \"" + edge + "\"", has ? 1 : 0, 1);
            }
        }
        return due;
    }

    void end() {
        Due all = allAreTold();
        for (Due due : dues) {
            due.is("it has answers of its own", due.answers() > 1 ? 1 : 0, 1);
            all.add(due);
        }
        all.end();
    }
}
