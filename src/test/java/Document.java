import java.io.IOException;
import java.nio.file.Files;
import java.nio.file.Path;
import java.util.ArrayList;
import java.util.List;

/** ../shared/DOC.md, cut into its promises; part 0 is all that stands ahead of promise 1. */
final class Document {
    static final int PROMISES = 49;

    /** What a clause names that refuses a call, answers NONE, or sets the numbers that are taken. */
    private static final String EDGE = ".*(\\b(BAD|STATE|NONE|NOTHING|BEYOND|UNLIKE|NOUGHT|SIZE)\\b|\\d \\.\\. \\d).*";

    private final String[] parts;

    Document(Path path) throws IOException {
        parts = Files.readString(path).split("## Not promised")[0].split("## Promise \\d+: ");
        for (int i = 0; i < parts.length; i++) {
            parts[i] = parts[i].replaceAll("\\s+", " ").trim();
        }
        if (parts.length != PROMISES + 1) {
            throw new IOException("not " + PROMISES + " promises, but " + (parts.length - 1) + ": " + path);
        }
    }

    boolean says(int promise, String words) {
        return parts[promise].contains(words);
    }

    /** The clauses of a promise, parted by full stops and semicolons, that name an edge. */
    List<String> edgesOf(int promise) {
        List<String> edges = new ArrayList<>();
        for (String clause : parts[promise].split("(?<!\\.)[.;]( |$)")) {
            if (clause.matches(EDGE)) {
                edges.add(clause.replaceFirst("^.*?`: ", ""));
            }
        }
        return edges;
    }
}
