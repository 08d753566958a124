/** Edges of promises 1 to 10: a new object, rows, texts, faults. */
final class EdgesOfRows {
    private EdgesOfRows() {
    }

    static void all(Edges edges) {
        newObject(edges);
        row(edges);
        lay(edges);
        at(edges);
        tear(edges);
        copy(edges);
        mean(edges);
        text(edges);
        put(edges);
        fault(edges);
    }

    private static void newObject(Edges edges) {
        edges.says(1, "No ROWS, TEXTS, EATERS").of(
            "count(6) -> 0", "count(7) -> 0", "count(0) -> 0", "at(0, 0) -> NOTHING", "tear(5) -> NOTHING",
            "fault(0) -> NOTHING",
            "fault(3) -> NOTHING", "eater(0, 0) -> BAD", "need(0, 1) -> BAD");
        edges.says(1, "an empty POT").of(
            "left() -> 0 tells 0/1", "evening(1) -> 0 asks 0 tells 0/1", "pot(1) -> 0", "pot(2) -> 1");
        edges.says(1, "LAW 0").of("law(0) -> 0", "law(1) -> 0");
    }

    private static void row(Edges edges) {
        edges.says(2, "A ROW is there with n ints 0: n").of(
            "row(0, 0) -> 0", "count(6) -> 1", "at(0, 0) -> BEYOND", "row(0, 1) -> 1", "lay(0, 0, 7) -> 1 asks 0",
            "row(0, 60) -> 60", "at(0, 0) -> 1 asks 0", "at(0, 59) -> 1 asks 0", "at(0, 60) -> BEYOND",
            "lay(0, 59, 8) -> 1",
            "row(0, 1) -> 1", "at(0, 1) -> BEYOND", "row(0, 60) -> 60", "at(0, 59) -> 1 asks 0", "count(6) -> 1",
            "row(5, 60) -> 60", "count(6) -> 2");
        edges.says(2, "BAD: also n above 60").of(
            "row(0, 61) -> BAD", "row(0, MAX) -> BAD", "count(6) -> 0", "row(-1, 0) -> BAD", "row(6, 0) -> BAD",
            "row(MAX, 60) -> BAD",
            "row(MIN, 1) -> BAD", "row(6, 61) -> BAD", "row(6, -1) -> BAD", "row(0, 3) -> 3", "row(0, 61) -> BAD",
            "at(0, 2) -> 1");
        edges.says(2, "SIZE: below 0").of(
            "row(0, -1) -> SIZE", "row(5, MIN) -> SIZE", "count(6) -> 0", "row(0, 3) -> 3", "row(0, -1) -> SIZE",
            "at(0, 2) -> 1");
    }

    private static void lay(Edges edges) {
        edges.says(3, "Place i of a ROW is v: what it was, told by asked(): 1").of(
            "row(0, 60) -> 60", "lay(0, 0, MIN) -> 1 asks 0", "lay(0, 59, MAX) -> 1 asks 0",
            "lay(0, 0, -1) -> 1 asks MIN",
            "lay(0, 59, 0) -> 1 asks MAX", "lay(0, 0, 0) -> 1 asks -1", "lay(0, 59, 1) -> 1 asks 0",
            "row(5, 1) -> 1", "lay(5, 0, -9) -> 1 asks 0", "lay(5, 0, -3) -> 1 asks -9");
        edges.says(3, "BAD").of(
            "row(0, 1) -> 1", "lay(-1, 0, 1) -> BAD", "lay(6, 0, 1) -> BAD", "lay(MAX, 0, 1) -> BAD",
            "lay(MIN, 9, 1) -> BAD");
        edges.says(3, "NOTHING").of(
            "lay(0, 0, 1) -> NOTHING", "lay(5, -1, 1) -> NOTHING", "row(0, 1) -> 1", "tear(0) -> 1",
            "lay(0, 0, 1) -> NOTHING");
        edges.says(3, "BEYOND").of(
            "row(0, 0) -> 0", "lay(0, 0, 1) -> BEYOND", "row(1, 60) -> 60", "lay(1, 60, 1) -> BEYOND",
            "lay(1, -1, 1) -> BEYOND",
            "lay(1, MAX, 1) -> BEYOND", "lay(1, MIN, 1) -> BEYOND", "row(1, 2) -> 2", "lay(1, 2, 1) -> BEYOND",
            "lay(1, 1, 1) -> 1");
    }

    private static void at(Edges edges) {
        edges.says(4, "Place i of a ROW, told by asked(): 1").of(
            "row(0, 60) -> 60", "at(0, 0) -> 1 asks 0", "at(0, 59) -> 1 asks 0", "lay(0, 0, MIN) -> 1",
            "at(0, 0) -> 1 asks MIN",
            "lay(0, 59, MAX) -> 1", "at(0, 59) -> 1 asks MAX", "lay(0, 1, -3) -> 1", "at(0, 1) -> 1 asks -3");
        edges.says(4, "BAD").of(
            "row(0, 1) -> 1", "at(-1, 0) -> BAD", "at(6, 0) -> BAD", "at(MAX, 0) -> BAD", "at(MIN, 9) -> BAD");
        edges.says(4, "NOTHING").of(
            "at(0, 0) -> NOTHING", "at(5, -1) -> NOTHING", "row(0, 1) -> 1", "tear(0) -> 1", "at(0, 0) -> NOTHING");
        edges.says(4, "BEYOND").of(
            "row(0, 0) -> 0", "at(0, 0) -> BEYOND", "row(1, 60) -> 60", "at(1, 60) -> BEYOND", "at(1, -1) -> BEYOND",
            "at(1, MAX) -> BEYOND", "at(1, MIN) -> BEYOND", "row(1, 2) -> 2", "at(1, 2) -> BEYOND", "at(1, 1) -> 1");
    }

    private static void tear(Edges edges) {
        edges.says(5, "A ROW is missing: 1").of(
            "row(0, 0) -> 0", "tear(0) -> 1", "row(5, 60) -> 60", "lay(5, 59, 4) -> 1", "tear(5) -> 1", "count(6) -> 0",
            "at(5, 59) -> NOTHING", "row(5, 60) -> 60", "at(5, 59) -> 1 asks 0");
        edges.says(5, "BAD").of(
            "row(0, 1) -> 1", "tear(-1) -> BAD", "tear(6) -> BAD", "tear(MAX) -> BAD", "tear(MIN) -> BAD",
            "count(6) -> 1");
        edges.says(5, "NOTHING").of(
            "tear(0) -> NOTHING", "tear(5) -> NOTHING", "row(0, 1) -> 1", "tear(0) -> 1", "tear(0) -> NOTHING");
    }

    private static void copy(Edges edges) {
        edges.says(6,
                "n places of a ROW, from one on, come to those of another one (perhaps itself) from one on, as if"
                + " taken ahead: 1").of(
            "ROW 0: 1 2 3 4 5", "copy(0, 0, 0, 1, 4) -> 1", "at(0, 0) -> 1 asks 1", "at(0, 1) -> 1 asks 1",
            "at(0, 2) -> 1 asks 2",
            "at(0, 3) -> 1 asks 3", "at(0, 4) -> 1 asks 4",
            "copy(0, 1, 0, 0, 4) -> 1", "at(0, 0) -> 1 asks 1", "at(0, 1) -> 1 asks 2", "at(0, 2) -> 1 asks 3",
            "at(0, 3) -> 1 asks 4",
            "at(0, 4) -> 1 asks 4",
            "copy(0, 0, 0, 0, 5) -> 1", "at(0, 4) -> 1 asks 4",
            "ROW 1: MIN MAX", "copy(1, 0, 0, 3, 2) -> 1", "at(0, 2) -> 1 asks 3", "at(0, 3) -> 1 asks MIN",
            "at(0, 4) -> 1 asks MAX",
            "row(2, 60) -> 60", "lay(2, 0, 6) -> 1", "lay(2, 59, 7) -> 1", "row(3, 60) -> 60",
            "copy(2, 0, 3, 0, 60) -> 1",
            "at(3, 0) -> 1 asks 6", "at(3, 59) -> 1 asks 7", "copy(2, 59, 3, 0, 1) -> 1", "at(3, 0) -> 1 asks 7",
            "at(3, 1) -> 1 asks 0");
        edges.says(6, "BAD").of(
            "row(0, 2) -> 2", "copy(-1, 0, 0, 0, 1) -> BAD", "copy(6, 0, 0, 0, 1) -> BAD",
            "copy(0, 0, -1, 0, 1) -> BAD",
            "copy(0, 0, 6, 0, 1) -> BAD", "copy(MAX, 0, MIN, 0, 0) -> BAD");
        edges.says(6, "SIZE: n below 0").of(
            "row(0, 2) -> 2", "copy(0, 0, 0, 0, -1) -> SIZE", "copy(0, 2, 0, 2, -1) -> SIZE",
            "copy(0, 0, 0, 0, MIN) -> SIZE");
        edges.says(6, "NOTHING: either").of(
            "row(0, 2) -> 2", "copy(0, 0, 1, 0, 1) -> NOTHING", "copy(1, 0, 0, 0, 1) -> NOTHING",
            "copy(1, 0, 1, 0, 0) -> NOTHING",
            "copy(1, 0, 2, 0, 0) -> NOTHING");
        edges.says(6, "BEYOND: not so many there (also with n 0, if i, j is below 0, or above its size)").of(
            "ROW 0: 1 2 3", "ROW 1: 4 5", "copy(0, 3, 1, 2, 0) -> 1", "copy(0, 0, 1, 0, 2) -> 1",
            "copy(0, 0, 1, 0, 3) -> BEYOND",
            "copy(1, 0, 0, 0, 3) -> BEYOND", "copy(0, 2, 1, 0, 2) -> BEYOND", "copy(0, 1, 1, 1, 2) -> BEYOND",
            "copy(0, 4, 1, 0, 0) -> BEYOND", "copy(0, 0, 1, 3, 0) -> BEYOND", "copy(0, -1, 1, 0, 0) -> BEYOND",
            "copy(0, 0, 1, -1, 0) -> BEYOND", "copy(0, -1, 1, 0, 1) -> BEYOND", "copy(0, 0, 1, -1, 1) -> BEYOND",
            "copy(0, 0, 0, 0, MAX) -> BEYOND", "copy(0, 1, 1, 1, MAX) -> BEYOND", "copy(0, MAX, 1, 0, 1) -> BEYOND",
            "copy(0, 0, 1, MAX, MAX) -> BEYOND", "copy(0, MIN, 1, MIN, 0) -> BEYOND",
            "copy(0, MIN, 1, 0, MAX) -> BEYOND",
            "row(2, 0) -> 0", "copy(2, 0, 2, 0, 0) -> 1", "copy(2, 0, 2, 0, 1) -> BEYOND",
            "copy(2, 1, 2, 0, 0) -> BEYOND");
        edges.says(6, "(In this order.)").of(
            "row(0, 2) -> 2", "copy(6, 9, 0, 0, -1) -> BAD", "copy(0, 9, 6, 0, -1) -> BAD",
            "copy(1, 9, 0, 0, -1) -> SIZE",
            "copy(0, 9, 1, 0, -1) -> SIZE", "copy(1, 9, 0, 0, 1) -> NOTHING", "copy(0, 9, 1, 0, 1) -> NOTHING",
            "copy(0, 9, 0, 0, 1) -> BEYOND");
    }

    private static void mean(Edges edges) {
        edges.says(7, "The mean of a ROW's ints, cut, told by asked(): 1").of(
            "ROW 0: 5", "mean(0) -> 1 asks 5", "ROW 0: 1 2", "mean(0) -> 1 asks 1", "ROW 0: -1 -2",
            "mean(0) -> 1 asks -1",
            "ROW 0: 0 -1", "mean(0) -> 1 asks 0", "ROW 0: 0 0", "mean(0) -> 1 asks 0", "ROW 0: MAX MAX MAX",
            "mean(0) -> 1 asks MAX",
            "ROW 0: MIN MIN MIN", "mean(0) -> 1 asks MIN", "ROW 0: MAX MIN", "mean(0) -> 1 asks 0",
            "NEW", "ROW 5:" + " MAX".repeat(60), "mean(5) -> 1 asks MAX", "ROW 5:" + " MIN".repeat(60),
            "mean(5) -> 1 asks MIN",
            "ROW 5:" + " 1".repeat(59) + " 0", "mean(5) -> 1 asks 0");
        edges.says(7, "BAD").of(
            "row(0, 1) -> 1", "mean(-1) -> BAD", "mean(6) -> BAD", "mean(MAX) -> BAD", "mean(MIN) -> BAD");
        edges.says(7, "NOTHING").of("mean(0) -> NOTHING", "row(5, 1) -> 1", "tear(5) -> 1", "mean(5) -> NOTHING");
        edges.says(7, "NOUGHT").of(
            "row(0, 0) -> 0", "mean(0) -> NOUGHT", "ROW 5: 7 8", "row(5, 0) -> 0", "mean(5) -> NOUGHT");
    }

    private static void text(Edges edges) {
        edges.says(8, "A TEXT is there with n blanks: n").of(
            "text(0, 0) -> 0", "count(7) -> 1", "fault(0) -> 0", "put(0, 0, 1) -> BEYOND", "text(3, 60) -> 60",
            "count(7) -> 2",
            "fault(3) -> 60", "put(3, 0, 7) -> 1032", "put(3, 59, 7) -> 1032", "put(3, 60, 7) -> BEYOND",
            "text(3, 60) -> 60",
            "put(3, 0, 7) -> 1032", "put(3, 59, 7) -> 1032", "text(3, 1) -> 1", "put(3, 1, 7) -> BEYOND",
            "count(7) -> 2");
        edges.says(8, "BAD: also n above 60").of(
            "text(0, 61) -> BAD", "text(3, MAX) -> BAD", "count(7) -> 0", "text(-1, 0) -> BAD", "text(4, 0) -> BAD",
            "text(4, 61) -> BAD", "text(4, -1) -> BAD", "text(MIN, 1) -> BAD", "text(0, 2) -> 2", "text(0, 61) -> BAD",
            "fault(0) -> 2");
        edges.says(8, "SIZE: below 0").of(
            "text(0, -1) -> SIZE", "text(3, MIN) -> SIZE", "count(7) -> 0", "text(0, 2) -> 2", "text(0, -1) -> SIZE",
            "fault(0) -> 2");
    }

    private static void put(Edges edges) {
        edges.says(9, "Byte i of a TEXT is v, cut to a byte (-128 .. 127): what it was, and 1000 more").of(
            "text(0, 60) -> 60", "put(0, 0, 127) -> 1032", "put(0, 0, 128) -> 1127", "put(0, 0, 129) -> 872",
            "put(0, 0, 255) -> 873",
            "put(0, 0, 256) -> 999", "put(0, 0, -128) -> 1000", "put(0, 0, -129) -> 872", "put(0, 0, -1) -> 1127",
            "put(0, 0, 383) -> 999", "put(0, 0, 384) -> 1127", "put(0, 0, MAX) -> 872", "put(0, 0, MIN) -> 999",
            "put(0, 0, 0) -> 1000",
            "put(0, 59, 1000) -> 1032", "put(0, 59, -1000) -> 976", "put(0, 59, 0) -> 1024");
        edges.says(9, "BAD").of(
            "text(0, 1) -> 1", "put(-1, 0, 1) -> BAD", "put(4, 0, 1) -> BAD", "put(MAX, 0, 1) -> BAD",
            "put(MIN, 9, 1) -> BAD");
        edges.says(9, "NOTHING").of("put(0, 0, 1) -> NOTHING", "put(3, -1, 1) -> NOTHING");
        edges.says(9, "BEYOND").of(
            "text(0, 0) -> 0", "put(0, 0, 1) -> BEYOND", "text(3, 60) -> 60", "put(3, 60, 1) -> BEYOND",
            "put(3, -1, 1) -> BEYOND",
            "put(3, MAX, 1) -> BEYOND", "put(3, MIN, 1) -> BEYOND", "text(3, 2) -> 2", "put(3, 2, 1) -> BEYOND",
            "put(3, 1, 1) -> 1032");
    }

    private static void fault(Edges edges) {
        edges.says(10, "A FAULT of a TEXT").of(
            "text(0, 0) -> 0", "fault(0) -> 0", "text(0, 60) -> 60", "fault(0) -> 60", "text(3, 60) -> 60",
            "put(3, 59, 112) -> 1032",
            "fault(3) -> 60", "put(3, 58, 112) -> 1032", "fault(3) -> 59", "put(3, 0, 33) -> 1032", "fault(3) -> 0");
        edges.says(10, "NONE: there is none").of(
            "text(3, 2) -> 2", "put(3, 0, 112) -> 1032", "put(3, 1, 49) -> 1032", "fault(3) -> NONE",
            "put(3, 1, 57) -> 1049", "fault(3) -> NONE",
            // All 60 places, all seven EATERS.
            "FAULT ' p999  l3  e99  g99  c99  n99  d99  k99" + " ".repeat(18) + "e99' -> NONE");
        edges.says(10, "BAD").of(
            "text(0, 1) -> 1", "fault(-1) -> BAD", "fault(4) -> BAD", "fault(MAX) -> BAD", "fault(MIN) -> BAD");
        edges.says(10, "NOTHING").of("fault(0) -> NOTHING", "fault(3) -> NOTHING");
    }
}
