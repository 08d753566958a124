/** Edges of promises 37 to 42: what was left, famine, lots. */
final class EdgesOfBonesAndFamine {
    private static final String SEVEN_OF_NO_NEED = "TABLE 'p999 n0 n0 n0 n0 n0 n0 n0' -> 7";
    /** The notary first: 2, then 5 of 8, left 3; the eater first: 6, then 2 of 4, left 2. */
    private static final String NOTARY_AND_EATER = "TABLE 'p10 n2 e1' -> 2";

    private EdgesOfBonesAndFamine() {
    }

    static void all(Edges edges) {
        bones(edges);
        last(edges);
        ahead(edges);
        famine(edges);
        kindest(edges);
        kitchens(edges);
        kitchensAreRefused(edges);
    }

    private static void bones(Edges edges) {
        edges.says(37,
                "From v (0 .. 999) pieces left at the end of an EVENING BY PIECES: in how many ORDERS it can be so,"
                + " of all, told by upper(), lower(): how many").of(
            SEVEN_OF_NO_NEED, "bones(999) -> 5040 tells 1/1", "bones(998) -> 0 tells 0/1", "bones(0) -> 0 tells 0/1",
            "bones(1) -> 0 tells 0/1",
            "need(6, 99) -> 0", "bones(900) -> 5040 tells 1/1", "bones(999) -> 0 tells 0/1",
            "TABLE 'p9 d0' -> 1", "bones(0) -> 1 tells 1/1", "bones(9) -> 0 tells 0/1",
            "TABLE 'p1 e9' -> 1", "bones(1) -> 1 tells 1/1", "bones(0) -> 0 tells 0/1",
            NOTARY_AND_EATER, "bones(3) -> 1 tells 1/2", "bones(2) -> 1 tells 1/2", "bones(4) -> 0 tells 0/1");
        edges.says(37, "BAD").of(
            "bones(-1) -> BAD", "bones(1000) -> BAD", SEVEN_OF_NO_NEED, "bones(-1) -> BAD", "bones(1000) -> BAD",
            "bones(MAX) -> BAD", "bones(MIN) -> BAD");
        edges.says(37, "STATE: there are no EATERS").of(
            "bones(0) -> STATE", "pot(9) -> 0", "bones(9) -> STATE", "TABLE 'p9' -> 0", "bones(999) -> STATE");
    }

    private static void last(Edges edges) {
        edges.says(38, "Who can have eaten last then (bits); who first by asked()").of(
            SEVEN_OF_NO_NEED, "last(999) -> 127 asks 127", NOTARY_AND_EATER, "last(3) -> 2 asks 1",
            "last(2) -> 1 asks 2",
            "TABLE 'p10 n5 n1 e1' -> 3", "last(2) -> 4 asks 3", "last(1) -> 3 asks 7",
            "TABLE 'p9 d0' -> 1", "last(0) -> 1 asks 1");
        edges.says(38, "BAD").of(
            "last(-1) -> BAD", "last(1000) -> BAD", SEVEN_OF_NO_NEED, "last(-1) -> BAD", "last(1000) -> BAD",
            "last(MAX) -> BAD", "last(MIN) -> BAD");
        edges.says(38, "NOUGHT: no ORDER, or no EATERS").of(
            "last(0) -> NOUGHT", "pot(9) -> 0", "last(9) -> NOUGHT", "TABLE 'p9' -> 0", "last(9) -> NOUGHT",
            "last(999) -> NOUGHT",
            NOTARY_AND_EATER, "last(0) -> NOUGHT", "last(1) -> NOUGHT", "last(4) -> NOUGHT", "last(999) -> NOUGHT");
    }

    private static void ahead(Edges edges) {
        edges.says(39,
                "Whether one ate ahead of another one then: 1 surely, 0 surely not, 2 it can have been either way").of(
            NOTARY_AND_EATER, "ahead(0, 1, 3) -> 1", "ahead(1, 0, 3) -> 0", "ahead(0, 1, 2) -> 0",
            "ahead(1, 0, 2) -> 1",
            SEVEN_OF_NO_NEED, "ahead(0, 6, 999) -> 2", "ahead(6, 0, 999) -> 2", "ahead(3, 4, 999) -> 2",
            "TABLE 'p1 d0 d0' -> 2", "ahead(0, 1, 0) -> 2",
            // 2 are left by 0 1 2 and 1 0 2 alone; by the other orders 1.
            "TABLE 'p10 n5 n1 e1' -> 3", "ahead(0, 1, 2) -> 2", "ahead(0, 2, 2) -> 1", "ahead(1, 2, 2) -> 1",
            "ahead(2, 0, 2) -> 0",
            "ahead(2, 1, 2) -> 0", "ahead(0, 2, 1) -> 2", "ahead(2, 1, 1) -> 2");
        edges.says(39, "BAD: also alike").of(
            "ahead(0, 1, 0) -> BAD", "TABLE 'p9 e1' -> 1", "ahead(0, 0, 3) -> BAD", "ahead(0, 1, 3) -> BAD",
            NOTARY_AND_EATER, "ahead(0, 0, 3) -> BAD", "ahead(1, 1, 3) -> BAD", "ahead(-1, 0, 3) -> BAD",
            "ahead(0, -1, 3) -> BAD",
            "ahead(2, 0, 3) -> BAD", "ahead(0, 2, 3) -> BAD", "ahead(2, 2, 3) -> BAD", "ahead(0, 1, -1) -> BAD",
            "ahead(0, 1, 1000) -> BAD",
            "ahead(MAX, 0, 3) -> BAD", "ahead(0, MIN, 3) -> BAD", "ahead(0, 1, MAX) -> BAD", "ahead(0, 1, MIN) -> BAD",
            "ahead(0, 0, 999) -> BAD");
        edges.says(39, "NOUGHT: no ORDER").of(
            NOTARY_AND_EATER, "ahead(0, 1, 0) -> NOUGHT", "ahead(1, 0, 4) -> NOUGHT", "ahead(0, 1, 999) -> NOUGHT",
            "ahead(0, 1, 3) -> 1");
    }

    private static void famine(Edges edges) {
        edges.says(40,
                "The least POT (1 .. 999) by which in d (1 .. 7) EVENINGS, the ORDER TURNED by 0, 1, .., all are"
                + " FED once at least").of(
            "TABLE 'p5 e0 d0' -> 2", "famine(1, 0) -> 1", "famine(7, 1) -> 1", "pot(5) -> 5",
            "TABLE 'p5 e1 e1 e74' -> 3", "famine(1, 0) -> 999", "famine(1, 1) -> 991", "famine(3, 0) -> 111",
            "famine(7, 0) -> 111",
            // The last of seven by a half: 128 in one evening, half of that by each one more.
            "TABLE 'p5 l2 e0 e0 e0 e0 e0 e0 e1' -> 7", "famine(1, 0) -> 128", "famine(2, 0) -> 64", "famine(6, 0) -> 4",
            "famine(7, 0) -> 2",
            "TABLE 'p5 e9 e0' -> 2", "famine(1, 0) -> 14", "famine(2, 0) -> 14",
            // Turned by 1 the dog is the last of two.
            "TABLE 'p5 d9 e9' -> 2", "famine(1, 0) -> NONE", "famine(2, 0) -> 14");
        edges.says(40, "NONE: none").of(
            "TABLE 'p5 e1 e1 e75' -> 3", "famine(1, 0) -> NONE", "famine(1, 1) -> NONE", "famine(2, 0) -> 338",
            "law(1) -> 0",
            "famine(1, 0) -> NONE", "law(2) -> 1", "famine(1, 0) -> 600");
        edges.says(40, "BAD").of(
            "famine(0, 0) -> BAD", "TABLE 'p9 e1' -> 1", "famine(0, 0) -> BAD", "famine(8, 0) -> BAD",
            "famine(-1, 0) -> BAD", "famine(1, -1) -> BAD",
            "famine(1, 2) -> BAD", "famine(MAX, 0) -> BAD", "famine(MIN, 0) -> BAD", "famine(7, MAX) -> BAD");
        edges.says(40, "STATE").of(
            "famine(1, 0) -> STATE", "pot(9) -> 0", "famine(7, 1) -> STATE", "TABLE 'p9' -> 0",
            "famine(1, 0) -> STATE");
    }

    private static void kindest(Edges edges) {
        edges.says(41, "The LAW (0 .. 3; the first) by which famine() is least; that by asked()").of(
            "TABLE 'p9 l2 d5' -> 1", "kindest(1, 0) -> 0 asks 5", "kindest(7, 1) -> 0 asks 5", "law(2) -> 2",
            "TABLE 'p9 l3 e0' -> 1", "kindest(1, 1) -> 0 asks 1",
            "TABLE 'p9 e60 e1 e10' -> 3", "kindest(1, 0) -> 3 asks 90", "law(0) -> 0",
            // A third: 1012 and a half, by turns 675, a quarter 1600, a half 600.
            "TABLE 'p9 e1 e1 e75' -> 3", "kindest(1, 0) -> 2 asks 600", "kindest(7, 0) -> 1 asks 100");
        edges.says(41, "NONE: none").of(
            "TABLE 'p9 e99 e99 e99 e99 e99' -> 5", "kindest(1, 0) -> NONE", "kindest(1, 1) -> NONE",
            "kindest(5, 0) -> 1 asks 132");
        edges.says(41, "BAD").of(
            "kindest(0, 0) -> BAD", "TABLE 'p9 e1' -> 1", "kindest(0, 0) -> BAD", "kindest(8, 0) -> BAD",
            "kindest(-1, 0) -> BAD",
            "kindest(1, -1) -> BAD", "kindest(1, 2) -> BAD", "kindest(MAX, 0) -> BAD", "kindest(MIN, 0) -> BAD",
            "kindest(7, MAX) -> BAD");
        edges.says(41, "STATE").of(
            "kindest(1, 0) -> STATE", "pot(9) -> 0", "kindest(7, 1) -> STATE", "TABLE 'p9' -> 0",
            "kindest(1, 0) -> STATE");
    }

    private static void kitchens(Edges edges) {
        // By the seed 1: 48271, 182605794; by 2147483646 what those lack of 2147483647: 2147435376, 1964877853.
        edges.says(42,
                "Kitchens by LOTS: n (1 .. 40) EVENINGS by a seed (1 .. 2147483646): a number comes from the one"
                + " ahead by 48271 times it modulo 2147483647").of(
            "TABLE 'p90 e50 e1' -> 2", "kitchens(1, 1, 0, 0) -> 0", "at(0, 0) -> 1 asks 1", "at(0, 1) -> 1 asks 1",
            "kitchens(2, 1, 0, 0) -> 1", "at(0, 0) -> 1 asks 1", "at(0, 1) -> 1 asks 2",
            "kitchens(1, 2147483646, 0, 0) -> 1", "at(0, 0) -> 1 asks 0", "at(0, 1) -> 1 asks 1",
            "kitchens(2, 2147483646, 0, 0) -> 1", "at(0, 0) -> 1 asks 1", "at(0, 1) -> 1 asks 2",
            "kitchens(40, 2147483646, 1, 5) -> 1", "at(5, 1) -> 1 asks 40",
            // By one EATER there are no lots to draw.
            "TABLE 'p9 e6' -> 1", "kitchens(40, 1, 0, 0) -> 0", "at(0, 0) -> 1 asks 40",
            "kitchens(1, 2147483646, 1, 0) -> 0", "at(0, 0) -> 1 asks 1");
        edges.says(42, "how often each was FED comes to a ROW (anew)").of(
            "TABLE 'p1 e0 e0 e0 e0 e0 e0 e0' -> 7", "kitchens(1, 1, 1, 5) -> 0", "at(5, 0) -> 1 asks 1",
            "at(5, 6) -> 1 asks 1",
            "at(5, 7) -> BEYOND", "row(0, 60) -> 60", "lay(0, 0, 9) -> 1", "lay(0, 59, 9) -> 1", "need(0, 1) -> 0",
            "kitchens(40, 1, 1, 0) -> 1", "at(0, 0) -> 1 asks 0", "at(0, 6) -> 1 asks 40", "at(0, 7) -> BEYOND",
            "count(6) -> 2");
        edges.says(42, "who most often (the first)").of(
            "TABLE 'p9 e99 e99 e99' -> 3", "kitchens(40, 7, 0, 0) -> 0", "at(0, 0) -> 1 asks 0", "at(0, 2) -> 1 asks 0",
            "TABLE 'p9 e0 e0 e0' -> 3", "kitchens(40, 7, 0, 0) -> 0", "at(0, 0) -> 1 asks 40", "at(0, 2) -> 1 asks 40",
            "TABLE 'p9 e99 e0 e0' -> 3", "kitchens(3, 7, 0, 0) -> 1", "TABLE 'p9 e99 e99 e0' -> 3",
            "kitchens(3, 7, 0, 0) -> 2");
        // With the seed 1 place 2 changes with place 48271 % 3, 1, and place 1 with 182605794 % 2, 0: 2 0 1; then with
        // 1291394886 % 3, 0, and 1914720637 % 2, 1: 2 1 0.
        edges.says(42,
                "from the last place of the ORDER down to place 1, one: it modulo (that place and 1) is the place"
                + " with which that one changes (anew from the ORDER for each)").of(
            "TABLE 'p27 e6 e6 e6' -> 3", "kitchens(1, 1, 0, 0) -> 0", "at(0, 0) -> 1 asks 1", "at(0, 1) -> 1 asks 0",
            "at(0, 2) -> 1 asks 1",
            "kitchens(2, 1, 0, 0) -> 2", "at(0, 0) -> 1 asks 1", "at(0, 1) -> 1 asks 1", "at(0, 2) -> 1 asks 2");
    }

    private static void kitchensAreRefused(Edges edges) {
        edges.says(42, "BAD").of(
            "TABLE 'p9 e1' -> 1", "kitchens(0, 1, 0, 0) -> BAD", "kitchens(41, 1, 0, 0) -> BAD",
            "kitchens(-1, 1, 0, 0) -> BAD",
            "kitchens(MAX, 1, 0, 0) -> BAD", "kitchens(1, 0, 0, 0) -> BAD", "kitchens(1, -1, 0, 0) -> BAD",
            "kitchens(1, MAX, 0, 0) -> BAD",
            "kitchens(1, MIN, 0, 0) -> BAD", "kitchens(1, 1, -1, 0) -> BAD", "kitchens(1, 1, 2, 0) -> BAD",
            "kitchens(1, 1, 0, -1) -> BAD",
            "kitchens(1, 1, 0, 6) -> BAD", "kitchens(1, 1, 0, MAX) -> BAD", "count(6) -> 0",
            "NEW", "kitchens(0, 1, 0, 0) -> BAD", "kitchens(1, 0, 0, 0) -> BAD", "kitchens(1, 1, 2, 0) -> BAD",
            "kitchens(1, 1, 0, 6) -> BAD");
        edges.says(42, "STATE").of(
            "ROW 0: 7 8", "kitchens(1, 1, 0, 0) -> STATE", "pot(9) -> 0", "kitchens(40, 2147483646, 1, 5) -> STATE",
            "TABLE 'p9' -> 0",
            "kitchens(1, 1, 0, 0) -> STATE", "at(0, 1) -> 1 asks 8", "at(5, 0) -> NOTHING");
    }
}
