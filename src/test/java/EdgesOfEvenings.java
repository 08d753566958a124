/** Edges of promises 18 to 24: an evening, one by one. */
final class EdgesOfEvenings {
    private EdgesOfEvenings() {
    }

    static void all(Edges edges) {
        begin(edges);
        eat(edges);
        took(edges);
        left(edges);
        fed(edges);
        keep(edges);
        on(edges);
    }

    private static void begin(Edges edges) {
        edges.says(18, "An EVENING is begun BY PARTS or BY PIECES (0, 1): how many are to eat").of(
            "begin(0) -> 0", "begin(1) -> 0", "left() -> 0 tells 0/1",
            "TABLE 'p10 e1 e1' -> 2", "begin(0) -> 2", "eat() -> 0 tells 20/3", "begin(1) -> 2", "count(4) -> 0",
            "took(0) -> STATE",
            "eat() -> 0 tells 6/1", "eat() -> 1 tells 2/1", "eat() -> STATE", "begin(1) -> 2", "eat() -> 0 tells 6/1",
            "TABLE 'p10 e1 e1 e1 e1 e1 e1 e1' -> 7", "begin(1) -> 7");
        edges.says(18, "BAD").of(
            "begin(2) -> BAD", "TABLE 'p10 e1 e1' -> 2", "eat() -> 0", "begin(-1) -> BAD", "begin(2) -> BAD",
            "begin(MAX) -> BAD",
            "begin(MIN) -> BAD", "left() -> 1 tells 10/3", "eat() -> 1 tells 20/9");
    }

    private static void eat(Edges edges) {
        edges.says(19, "The next one eats: who").of(
            "TABLE 'p1 e1 e1 e1 e1 e1 e1 d1' -> 7", "ROW 0: 6 0 5 1 4 2 3", "order(0) -> 7", "begin(1) -> 7",
            "eat() -> 6 tells 1/1",
            "eat() -> 0 tells 0/1", "eat() -> 5 tells 0/1", "eat() -> 1", "eat() -> 4", "eat() -> 2",
            "eat() -> 3 tells 0/1", "eat() -> STATE");
        edges.says(19, "STATE: all have").of(
            "eat() -> STATE", "pot(9) -> 0", "begin(0) -> 0", "eat() -> STATE", "TABLE 'p9' -> 0", "eat() -> STATE",
            "TABLE 'p9 e1' -> 1", "eat() -> 0 tells 6/1", "eat() -> STATE", "eat() -> STATE", "left() -> 1 tells 3/1",
            "begin(0) -> 1",
            "eat() -> 0", "eat() -> STATE");
    }

    private static void took(Edges edges) {
        edges.says(20, "What one TOOK, told by upper(), lower(): 1").of(
            "TABLE 'p10 d1 e1 e1 e1 e1 e1 g1' -> 7", "eat() -> 0 tells 10/1", "eat() -> 1", "eat() -> 2", "eat() -> 3",
            "eat() -> 4", "eat() -> 5",
            "eat() -> 6", "took(0) -> 1 tells 10/1", "took(6) -> 1 tells 0/1");
        edges.says(20, "BAD").of(
            "took(0) -> BAD", "TABLE 'p9 e1 e1' -> 2", "eat() -> 0", "eat() -> 1", "took(-1) -> BAD", "took(2) -> BAD",
            "took(7) -> BAD",
            "took(32) -> BAD", "took(MAX) -> BAD", "took(MIN) -> BAD", "took(1) -> 1");
        edges.says(20, "STATE: it did not eat yet").of(
            "TABLE 'p9 e1 e1' -> 2", "took(0) -> STATE", "took(1) -> STATE", "keep(0) -> 0", "eat() -> 0",
            "took(0) -> 1 tells 6/1",
            "took(1) -> STATE", "eat() -> 1", "took(1) -> 1 tells 2/1", "on(0) -> 0", "took(0) -> STATE",
            "begin(0) -> 2", "took(1) -> STATE");
    }

    private static void left(Edges edges) {
        edges.says(21, "What is in the POT yet, told by upper(), lower(): how many have eaten").of(
            "left() -> 0 tells 0/1", "pot(999) -> 0", "left() -> 0 tells 0/1", "begin(0) -> 0",
            "left() -> 0 tells 999/1",
            "TABLE 'p999 e1 d1 e1' -> 3", "left() -> 0 tells 999/1", "eat() -> 0", "left() -> 1 tells 333/1",
            "eat() -> 1",
            "left() -> 2 tells 0/1", "eat() -> 2", "left() -> 3 tells 0/1", "eat() -> STATE", "left() -> 3 tells 0/1",
            "TABLE 'p1 e0 e0 e0 e0 e0 e0 e0' -> 7", "eat() -> 0", "eat() -> 1", "eat() -> 2", "eat() -> 3",
            "eat() -> 4", "eat() -> 5",
            "eat() -> 6", "left() -> 7 tells 1/2187");
    }

    private static void fed(Edges edges) {
        edges.says(22, "Those of the ones who have eaten who are FED (bits); how many by asked()").of(
            "fed() -> 0 asks 0", "TABLE 'p9 e0 e0 e0 e0 e0 e0 e0' -> 7", "fed() -> 0 asks 0", "eat() -> 0",
            "fed() -> 1 asks 1",
            "eat() -> 1", "eat() -> 2", "eat() -> 3", "eat() -> 4", "eat() -> 5", "fed() -> 63 asks 6", "eat() -> 6",
            "fed() -> 127 asks 7",
            "begin(1) -> 7", "fed() -> 0 asks 0",
            "TABLE 'p9 e7 e3' -> 2", "eat() -> 0", "eat() -> 1", "fed() -> 0 asks 0", "need(0, 6) -> 7",
            "fed() -> 1 asks 1",
            "need(1, 2) -> 3", "fed() -> 3 asks 2",
            // 20/3 are less than 7, and 6 by pieces, too; 20/9 are more than 2.
            "TABLE 'p10 e7 e2' -> 2", "eat() -> 0", "eat() -> 1", "fed() -> 2 asks 1", "begin(1) -> 2", "eat() -> 0",
            "eat() -> 1",
            "fed() -> 2 asks 1");
    }

    private static void keep(Edges edges) {
        edges.says(23,
                "The EVENING is kept in a place (0 .. 2; its ORDER, what all TOOK, the POT; LAW and NEEDS not): how"
                + " many have eaten").of(
            "TABLE 'p90 e60 e1 e1' -> 3", "keep(0) -> 0", "count(5) -> 1", "eat() -> 0", "keep(2) -> 1",
            "count(5) -> 2", "eat() -> 1",
            "eat() -> 2", "keep(1) -> 3", "count(5) -> 3",
            "ROW 0: 2 1 0", "order(0) -> 3", "law(2) -> 0", "need(0, 61) -> 60", "pot(8) -> 90", "begin(1) -> 3",
            "eat() -> 2",
            "on(2) -> 1", "left() -> 1 tells 30/1", "took(0) -> 1 tells 60/1", "fed() -> 0 asks 0",
            "eat() -> 1 tells 15/1",
            "on(0) -> 0", "left() -> 0 tells 90/1", "eat() -> 0 tells 45/1", "on(1) -> 3", "took(2) -> 1 tells 20/3",
            "eat() -> STATE",
            "on(2) -> 1", "eat() -> 1 tells 15/1", "keep(2) -> 2", "count(5) -> 3", "begin(0) -> 3", "on(2) -> 2",
            "pot(8) -> 8",
            "eater(0, 2) -> 1 asks 2");
        edges.says(23, "BAD").of(
            "keep(3) -> BAD", "TABLE 'p9 e1' -> 1", "keep(-1) -> BAD", "keep(3) -> BAD", "keep(MAX) -> BAD",
            "keep(MIN) -> BAD", "count(5) -> 0");
        edges.says(23, "STATE: there are no EATERS").of(
            "keep(0) -> STATE", "pot(9) -> 0", "begin(1) -> 0", "keep(2) -> STATE", "TABLE 'p9' -> 0",
            "keep(0) -> STATE", "count(5) -> 0",
            "TABLE 'p9 e1' -> 1", "keep(0) -> 0");
    }

    private static void on(Edges edges) {
        edges.says(24, "The EVENING is as it was kept: how many have eaten").of(
            "TABLE 'p10 e1 e1' -> 2", "keep(0) -> 0", "begin(1) -> 2", "eat() -> 0 tells 6/1", "keep(1) -> 1",
            "eat() -> 1 tells 2/1", "keep(2) -> 2",
            "on(0) -> 0", "count(4) -> 0", "eat() -> 0 tells 20/3", "on(1) -> 1", "took(0) -> 1 tells 6/1",
            "took(1) -> STATE",
            "left() -> 1 tells 4/1", "eat() -> 1 tells 2/1", "on(2) -> 2", "eat() -> STATE", "on(2) -> 2",
            "left() -> 2 tells 2/1",
            // What goes on from a kept one leaves it as it is.
            "on(0) -> 0", "eat() -> 0", "on(0) -> 0", "eat() -> 0 tells 20/3", "eat() -> 1 tells 20/9", "on(0) -> 0",
            "count(4) -> 0");
        edges.says(24, "BAD").of(
            "on(-1) -> BAD", "on(3) -> BAD", "TABLE 'p9 e1' -> 1", "keep(0) -> 0", "on(3) -> BAD", "on(MAX) -> BAD",
            "on(MIN) -> BAD");
        edges.says(24, "NOTHING").of(
            "on(0) -> NOTHING", "on(2) -> NOTHING", "TABLE 'p9 e1' -> 1", "keep(1) -> 0", "on(0) -> NOTHING",
            "on(2) -> NOTHING", "on(1) -> 0",
            "TABLE 'p9 e1' -> 1", "on(1) -> NOTHING");
    }
}
