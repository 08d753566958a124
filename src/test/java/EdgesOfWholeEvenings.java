/** Edges of promises 25 to 31: whole evenings, gone through aside. */
final class EdgesOfWholeEvenings {
    /** By a half of 128 the places have 64 down to 1: all seven are fed in one order alone, the last one. */
    private static final String DOUBLES = "TABLE 'p128 l2 e1 e2 e4 e8 e16 e32 e64' -> 7";
    private static final String[] NO_EATERS = {"pot(9) -> 0", "row(0, 2) -> 2"};

    private EdgesOfWholeEvenings() {
    }

    static void all(Edges edges) {
        evening(edges);
        place(edges);
        favours(edges);
        least(edges);
        best(edges);
        most(edges);
        kind(edges);
    }

    private static void evening(Edges edges) {
        edges.says(25,
                "Who (EATERS, bits) would be FED by a whole EVENING, eating by the ORDER as told; what would be"
                + " left by upper(), lower(); how many by asked()").of(
            "evening(0) -> 0 asks 0 tells 0/1", "pot(999) -> 0", "evening(1) -> 0 asks 0 tells 999/1",
            "TABLE 'p1 e99 e99 e99 e99 e99 e99 e99' -> 7", "evening(0) -> 0 asks 0 tells 1/2187",
            "evening(1) -> 0 asks 0 tells 1/1",
            "TABLE 'p999 e0 e0 e0 e0 e0 e0 d0' -> 7", "evening(0) -> 127 asks 7 tells 0/1",
            "evening(1) -> 127 asks 7 tells 0/1",
            "TABLE 'p1 d1' -> 1", "evening(1) -> 1 asks 1 tells 0/1", "need(0, 2) -> 1",
            "evening(1) -> 0 asks 0 tells 0/1",
            "eat() -> 0", "pot(5) -> 1", "evening(0) -> 1 asks 1 tells 0/1", "left() -> 1 tells 0/1");
        edges.says(25, "BAD").of(
            "evening(-1) -> BAD", "evening(2) -> BAD", "TABLE 'p9 e1' -> 1", "evening(2) -> BAD", "evening(MAX) -> BAD",
            "evening(MIN) -> BAD");
    }

    private static void place(Edges edges) {
        edges.says(26,
                "What one would TAKE at a place in the ORDER (others as they stand, one behind the other), told by"
                + " upper(), lower(): 1").of(
            "TABLE 'p128 l2 e1 e1 e1 e1 e1 e1 n50' -> 7", "place(0, 0, 0) -> 1 tells 64/1",
            "place(0, 6, 0) -> 1 tells 1/1",
            "place(6, 0, 0) -> 1 tells 50/1", "place(6, 6, 1) -> 1 tells 1/1", "place(0, 5, 1) -> 1 tells 2/1",
            "place(3, 3, 1) -> 1 tells 8/1", "eater(3, 2) -> 1 asks 3",
            "TABLE 'p1 d1' -> 1", "place(0, 0, 0) -> 1 tells 1/1",
            "TABLE 'p5 d1 e1' -> 2", "place(1, 1, 0) -> 1 tells 0/1", "place(1, 0, 0) -> 1 tells 10/3",
            "place(0, 1, 1) -> 1 tells 2/1");
        edges.says(26, "BAD").of(
            "place(0, 0, 0) -> BAD", "TABLE 'p9 e1 e1' -> 2", "place(-1, 0, 0) -> BAD", "place(2, 0, 0) -> BAD",
            "place(0, -1, 0) -> BAD",
            "place(0, 2, 0) -> BAD", "place(0, 0, -1) -> BAD", "place(0, 0, 2) -> BAD", "place(MAX, 0, 0) -> BAD",
            "place(0, MAX, 0) -> BAD",
            "place(0, 0, MAX) -> BAD", "place(MIN, MIN, MIN) -> BAD", "place(1, 1, 1) -> 1 tells 2/1");
    }

    private static void favours(Edges edges) {
        edges.says(27,
                "The place at which one would TAKE most (the first), others as they stand; that by upper(),"
                + " lower()").of(
            "TABLE 'p1 e1 e1 e1 e1 e1 e1 e1' -> 7", "favours(6, 0) -> 0 tells 2/3", "favours(6, 1) -> 0 tells 0/1",
            "favours(0, 1) -> 0 tells 0/1",
            "TABLE 'p99 n0 n0 k2' -> 3", "favours(2, 0) -> 0 tells 2/1", "favours(0, 0) -> 0 tells 0/1",
            "TABLE 'p1 d1' -> 1", "favours(0, 1) -> 0 tells 1/1",
            // By turns the places 0 and 2 are alike, but for what others took.
            "TABLE 'p60 l3 n0 n0 e1' -> 3", "favours(2, 0) -> 0 tells 40/1");
        edges.says(27, "BAD").of(
            "favours(0, 0) -> BAD", "TABLE 'p9 e1 e1' -> 2", "favours(-1, 0) -> BAD", "favours(2, 0) -> BAD",
            "favours(0, -1) -> BAD",
            "favours(0, 2) -> BAD", "favours(MAX, 0) -> BAD", "favours(MIN, 0) -> BAD", "favours(0, MAX) -> BAD",
            "favours(1, 1) -> 0 tells 6/1");
    }

    private static void least(Edges edges) {
        edges.says(28, "The least POT (1 .. 999) by which all would be FED in the ORDER").of(
            "TABLE 'p5 e0 e0 e0 e0 e0 e0 e0' -> 7", "least(0) -> 1", "least(1) -> 1", "pot(6) -> 5",
            "TABLE 'p5 d1' -> 1", "least(0) -> 1", "need(0, 2) -> 1", "least(0) -> 2", "least(1) -> 2",
            "need(0, 99) -> 2", "least(1) -> 99",
            "TABLE 'p5 e1 e1 e74' -> 3", "least(0) -> 999", "least(1) -> 991",
            // 2/3 of 10 is more than 6, 2/3 of 9 just that.
            "TABLE 'p5 e6' -> 1", "least(0) -> 9", "least(1) -> 9", "need(0, 7) -> 6", "least(0) -> 11",
            "least(1) -> 11", "pot(5) -> 5");
        edges.says(28, "NONE: none").of(
            // 1012 and a half would do.
            "TABLE 'p5 e1 e1 e75' -> 3", "least(0) -> NONE", "least(1) -> NONE", "ROW 0: 2 0 1", "order(0) -> 3",
            "least(0) -> 113",
            "TABLE 'p5 d0 e1' -> 2", "least(0) -> NONE", "least(1) -> NONE", "need(1, 0) -> 1", "least(0) -> 1");
        edges.says(28, "BAD").of(
            "least(-1) -> BAD", "least(2) -> BAD", "TABLE 'p9 e1' -> 1", "least(2) -> BAD", "least(MAX) -> BAD",
            "least(MIN) -> BAD");
        edges.says(28, "STATE: there are no EATERS").of(NO_EATERS).of(
            "least(0) -> STATE", "least(1) -> STATE", "TABLE 'p9' -> 0", "least(0) -> STATE");
    }

    private static void best(Edges edges) {
        edges.says(29, "The ORDER by which that is least comes to a ROW (anew): that POT").of(
            DOUBLES, "best(0, 0) -> 128", "at(0, 0) -> 1 asks 6", "at(0, 1) -> 1 asks 5", "at(0, 5) -> 1 asks 1",
            "at(0, 6) -> 1 asks 0",
            "at(0, 7) -> BEYOND", "best(1, 5) -> 128", "at(5, 0) -> 1 asks 6", "at(5, 6) -> 1 asks 0",
            "eater(0, 2) -> 1 asks 0", "pot(128) -> 128",
            "TABLE 'p5 e0 e0 e0 e0 e0 e0 e0' -> 7", "row(1, 60) -> 60", "lay(1, 0, 9) -> 1", "lay(1, 59, 9) -> 1",
            "best(0, 1) -> 1",
            "at(1, 0) -> 1 asks 0", "at(1, 6) -> 1 asks 6", "at(1, 7) -> BEYOND", "order(1) -> 7",
            "TABLE 'p5 d99' -> 1", "row(1, 0) -> 0", "best(1, 1) -> 99", "at(1, 0) -> 1 asks 0", "at(1, 1) -> BEYOND",
            "tear(1) -> 1", "best(1, 1) -> 99", "at(1, 0) -> 1 asks 0", "at(1, 1) -> BEYOND",
            "TABLE 'p5 e1 e1 e74' -> 3", "best(0, 1) -> 111", "at(1, 0) -> 1 asks 2", "at(1, 1) -> 1 asks 0",
            "at(1, 2) -> 1 asks 1");
        // Three that need 74 alike: 999 by each order; 75 by none.
        edges.says(29, "NONE: none").of(
            "TABLE 'p5 e74 e74 e74' -> 3", "best(0, 0) -> 999", "at(0, 0) -> 1 asks 0", "at(0, 1) -> 1 asks 1",
            "at(0, 2) -> 1 asks 2",
            "TABLE 'p5 e75 e75 e75' -> 3", "ROW 0: 4 3 2 1", "best(0, 0) -> NONE", "best(1, 0) -> NONE",
            "best(0, 5) -> NONE",
            "at(0, 0) -> 1 asks 4", "at(0, 3) -> 1 asks 1", "at(5, 0) -> NOTHING");
        edges.says(29, "BAD").of(
            "best(0, 6) -> BAD", "TABLE 'p9 e1' -> 1", "best(-1, 0) -> BAD", "best(2, 0) -> BAD", "best(0, -1) -> BAD",
            "best(0, 6) -> BAD",
            "best(MAX, 0) -> BAD", "best(0, MAX) -> BAD", "best(MIN, MIN) -> BAD", "count(6) -> 0");
        edges.says(29, "STATE").of(NO_EATERS).of(
            "best(0, 0) -> STATE", "best(1, 5) -> STATE", "TABLE 'p9' -> 0", "best(0, 0) -> STATE");
    }

    private static void most(Edges edges) {
        edges.says(30,
                "The greatest number that could be FED with the POT by any ORDER; in how many ORDERS by asked()").of(
            "TABLE 'p1 e9 e9 e9 e9 e9 e9 e9' -> 7", "most(0) -> 0 asks 5040", "most(1) -> 0 asks 5040",
            "TABLE 'p1 e0 e0 e0 e0 e0 e0 e0' -> 7", "most(0) -> 7 asks 5040", "most(1) -> 7 asks 5040",
            "TABLE 'p1 d1' -> 1", "most(1) -> 1 asks 1", "need(0, 2) -> 1", "most(1) -> 0 asks 1",
            "NEW", DOUBLES, "most(0) -> 7 asks 1", "most(1) -> 7 asks 1", "pot(127) -> 128", "most(0) -> 6 asks 1",
            "eater(6, 2) -> 1 asks 6");
        edges.says(30, "BAD").of(
            "most(-1) -> BAD", "most(2) -> BAD", "TABLE 'p9 e1' -> 1", "most(2) -> BAD", "most(MAX) -> BAD",
            "most(MIN) -> BAD");
        edges.says(30, "STATE").of(NO_EATERS).of(
            "most(0) -> STATE", "most(1) -> STATE", "TABLE 'p9' -> 0", "most(0) -> STATE");
    }

    private static void kind(Edges edges) {
        edges.says(31,
                "The LAW (0 .. 3; the first) by which most would be FED in the ORDER, of alike ones that by which"
                + " most is left; how many by asked()").of(
            "TABLE 'p9 l2 d9' -> 1", "kind(0) -> 0 asks 1", "kind(1) -> 0 asks 1", "law(2) -> 2",
            "need(0, 10) -> 9", "kind(0) -> 0 asks 0",
            // Nobody is fed: most is left by a half.
            "TABLE 'p9 e99' -> 1", "kind(0) -> 2 asks 0", "kind(1) -> 2 asks 0",
            // By one piece nothing is taken, whatever the law.
            "TABLE 'p1 e9' -> 1", "kind(1) -> 0 asks 0", "kind(0) -> 2 asks 0",
            // By turns both are fed as by a third, and more is left.
            "TABLE 'p100 e60 e15' -> 2", "kind(0) -> 3 asks 2", "TABLE 'p100 e70' -> 1", "kind(0) -> 1 asks 1",
            "TABLE 'p9 e0 e0 e0 e0 e0 e0 e0' -> 7", "kind(0) -> 2 asks 7", "need(0, 6) -> 0", "kind(0) -> 3 asks 7");
        edges.says(31, "BAD").of(
            "kind(-1) -> BAD", "kind(2) -> BAD", "TABLE 'p9 e1' -> 1", "kind(2) -> BAD", "kind(MAX) -> BAD",
            "kind(MIN) -> BAD");
        edges.says(31, "STATE").of(NO_EATERS).of(
            "kind(0) -> STATE", "kind(1) -> STATE", "TABLE 'p9' -> 0", "kind(0) -> STATE");
    }
}
