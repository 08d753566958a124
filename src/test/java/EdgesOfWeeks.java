/** Edges of promises 32 to 36: weeks, several pots, cheats. */
final class EdgesOfWeeks {
    private EdgesOfWeeks() {
    }

    static void all(Edges edges) {
        week(edges);
        even(edges);
        two(edges);
        scales(edges);
        cheats(edges);
    }

    private static void week(Edges edges) {
        edges.says(32,
                "What one would TAKE in d (1 .. 7) EVENINGS together, the ORDER TURNED by 0, 1, .. (modulo how many"
                + " EATERS), told by upper(), lower(): 1").of(
            // By a half of 128: 64, 32, 16, 8, 4, 2, 1.
            "TABLE 'p128 l2 e1 e1 e1 e1 e1 e1 e1' -> 7", "week(6, 1, 1) -> 1 tells 1/1",
            "week(6, 6, 1) -> 1 tells 63/1",
            "week(6, 7, 1) -> 1 tells 127/1", "week(0, 1, 1) -> 1 tells 64/1", "week(0, 7, 1) -> 1 tells 127/1",
            // Six of them: the seventh evening is turned as the first one was.
            "TABLE 'p128 l2 e1 e1 e1 e1 e1 e1' -> 6", "week(0, 6, 1) -> 1 tells 126/1",
            "week(0, 7, 1) -> 1 tells 190/1",
            "week(5, 7, 1) -> 1 tells 128/1",
            "TABLE 'p9 e1 e1' -> 2", "week(0, 2, 0) -> 1 tells 8/1", "week(0, 3, 0) -> 1 tells 14/1",
            "week(1, 7, 0) -> 1 tells 26/1",
            "TABLE 'p999 d1' -> 1", "week(0, 7, 0) -> 1 tells 6993/1", "week(0, 1, 0) -> 1 tells 999/1",
            "TABLE 'p1 e1' -> 1", "week(0, 7, 1) -> 1 tells 0/1", "week(0, 7, 0) -> 1 tells 14/3");
        edges.says(32, "BAD").of(
            "week(0, 1, 0) -> BAD", "TABLE 'p9 e1 e1' -> 2", "week(-1, 1, 0) -> BAD", "week(2, 1, 0) -> BAD",
            "week(0, 0, 0) -> BAD",
            "week(0, 8, 0) -> BAD", "week(0, -1, 0) -> BAD", "week(0, 1, -1) -> BAD", "week(0, 1, 2) -> BAD",
            "week(MAX, 1, 0) -> BAD",
            "week(MIN, 1, 0) -> BAD", "week(0, MAX, 0) -> BAD", "week(0, MIN, 0) -> BAD", "week(0, 1, MAX) -> BAD",
            "week(1, 7, 1) -> 1 tells 26/1");
    }

    private static void even(Edges edges) {
        edges.says(33,
                "Of d (1 .. 4) EVENINGS, in each the ORDER TURNED by any number: the greatest number of EVENINGS in"
                + " which even the one who is FED least often is FED; the first such numbers (as figures to the base"
                + " of 7, the first EVENING's the highest) by asked()").of(
            "TABLE 'p9 e1' -> 1", "even(1, 0) -> 1 asks 0", "even(4, 0) -> 4 asks 0", "need(0, 7) -> 1",
            "even(4, 0) -> 0 asks 0",
            "TABLE 'p90 e50 e50' -> 2", "even(1, 0) -> 0 asks 0", "even(2, 0) -> 1 asks 1", "even(3, 0) -> 1 asks 1",
            "even(4, 0) -> 2 asks 8",
            // One is never fed.
            "need(0, 99) -> 50", "even(4, 1) -> 0 asks 0",
            // All are fed only if the dog is the last, which is turned by 6: 2400 is 6666 to the base of 7.
            "TABLE 'p999 d1 n1 n1 n1 n1 n1 n1' -> 7", "ROW 0: 1 2 3 4 5 0 6", "order(0) -> 7", "even(1, 0) -> 1 asks 6",
            "even(4, 0) -> 4 asks 2400",
            "even(4, 1) -> 4 asks 2400", "even(2, 1) -> 2 asks 48",
            // Four of whom one is fed, the first: each once by the turns 0 1 2 3.
            "TABLE 'p9 e6 e6 e6 e6' -> 4", "even(3, 0) -> 0 asks 0", "even(4, 0) -> 1 asks 66",
            // There is no turn by 1 of one, none by 2 of two, though there was one of seven ahead.
            "TABLE 'p999 e0 e0 e0 e0 e0 e0 e0' -> 7", "even(4, 0) -> 4 asks 0", "TABLE 'p9 e10' -> 1",
            "even(1, 0) -> 0 asks 0", "TABLE 'p90 e50 e50' -> 2", "even(1, 0) -> 0 asks 0");
        edges.says(33, "BAD").of(
            "even(0, 0) -> BAD", "TABLE 'p9 e1' -> 1", "even(0, 0) -> BAD", "even(5, 0) -> BAD", "even(-1, 0) -> BAD",
            "even(1, -1) -> BAD",
            "even(1, 2) -> BAD", "even(MAX, 0) -> BAD", "even(MIN, 0) -> BAD", "even(4, MAX) -> BAD");
        edges.says(33, "STATE").of(
            "even(1, 0) -> STATE", "pot(9) -> 0", "even(4, 1) -> STATE", "TABLE 'p9' -> 0", "even(1, 0) -> STATE");
    }

    private static void two(Edges edges) {
        edges.says(34,
                "Two POTS (each as the POT) at once, one by the ORDER, one by it backwards: who would TAKE its NEED"
                + " from both together (bits); how many by asked()").of(
            "two(0) -> 0 asks 0", "TABLE 'p9' -> 0", "two(1) -> 0 asks 0",
            "TABLE 'p9 e12' -> 1", "two(0) -> 1 asks 1", "need(0, 13) -> 12", "two(0) -> 0 asks 0", "need(0, 11) -> 13",
            "two(0) -> 1 asks 1",
            "TABLE 'p9 n12' -> 1", "two(1) -> 1 asks 1", "need(0, 13) -> 12", "two(1) -> 0 asks 0",
            // 20/3 and 20/9 are a ninth less than 9; by pieces 6 and 2.
            "TABLE 'p10 e9 e8' -> 2", "two(0) -> 2 asks 1", "two(1) -> 2 asks 1", "need(1, 9) -> 8",
            "two(0) -> 0 asks 0",
            "TABLE 'p999 e0 e0 e0 e0 e0 e0 e0' -> 7", "two(0) -> 127 asks 7",
            // By a half of 128 from both together: 65, 34, 20, 16, 20, 34, 65.
            "TABLE 'p128 l2 e65 e34 e20 e16 e20 e34 e65' -> 7", "two(1) -> 127 asks 7", "need(3, 17) -> 16",
            "two(1) -> 119 asks 6",
            "need(6, 66) -> 65", "two(0) -> 55 asks 5");
        edges.says(34, "BAD").of(
            "two(-1) -> BAD", "two(2) -> BAD", "TABLE 'p9 e1' -> 1", "two(2) -> BAD", "two(MAX) -> BAD",
            "two(MIN) -> BAD");
    }

    private static void scales(Edges edges) {
        edges.says(35,
                "Which CHEATS the scales show: those (bits) without whose cheating (each alone as an EATER) one"
                + " piece or more would be left more BY PARTS at the end; how many CHEATS there are by asked()").of(
            "scales() -> 0 asks 0", "TABLE 'p999' -> 0", "scales() -> 0 asks 0", "TABLE 'p999 e1 g1 n1 k1 d1' -> 5",
            "scales() -> 0 asks 0",
            // A third less a sixth: of 6 just one piece.
            "TABLE 'p6 c1' -> 1", "scales() -> 1 asks 1", "pot(5) -> 6", "scales() -> 0 asks 1", "begin(1) -> 1",
            "pot(7) -> 5", "scales() -> 1 asks 1",
            // A half less a quarter.
            "law(2) -> 0", "pot(4) -> 7", "scales() -> 1 asks 1", "pot(3) -> 4", "scales() -> 0 asks 1",
            "TABLE 'p36 c1 c1' -> 2", "scales() -> 3 asks 2", "pot(35) -> 36", "scales() -> 0 asks 2",
            // By a half seven leave a 16384th, and one less of them as much more: of 999 less than a piece.
            "TABLE 'p999 l2 c1 c1 c1 c1 c1 c1 c1' -> 7", "scales() -> 0 asks 7",
            "TABLE 'p999 l2 n0 n0 c1 c1 c1 c1 n0' -> 7", "scales() -> 60 asks 4", "pot(256) -> 999",
            "scales() -> 60 asks 4", "pot(255) -> 256",
            "scales() -> 0 asks 4",
            "TABLE 'p999 c1 d1' -> 2", "scales() -> 0 asks 1");
    }

    private static void cheats(Edges edges) {
        edges.says(36,
                "What all CHEATS together TAKE more in an EVENING BY PARTS (by the ORDER) than if they were EATERS,"
                + " told by upper() (perhaps below 0), lower(): 1").of(
            "cheats() -> 1 tells 0/1", "TABLE 'p999' -> 0", "cheats() -> 1 tells 0/1", "TABLE 'p999 e1 g1 n1' -> 3",
            "cheats() -> 1 tells 0/1",
            "TABLE 'p1 c1' -> 1", "cheats() -> 1 tells 1/6", "begin(1) -> 1", "pot(6) -> 1", "cheats() -> 1 tells 1/1",
            // Behind a DOG there is nothing to take.
            "TABLE 'p9 d1 c1 c1' -> 3", "cheats() -> 1 tells 0/1",
            // 35/36 less 8/9 of 36.
            "TABLE 'p36 c1 c1' -> 2", "cheats() -> 1 tells 3/1",
            // As CHEATS 30, 4, 5/3, as EATERS 24, 8, 8/3: what the one between takes less does not count.
            "TABLE 'p36 c1 e1 c1' -> 3", "cheats() -> 1 tells 5/1",
            // Of seven a 279936th is left, as EATERS a 2187th.
            "TABLE 'p1 c1 c1 c1 c1 c1 c1 c1' -> 7", "cheats() -> 1 tells 127/279936");
    }
}
