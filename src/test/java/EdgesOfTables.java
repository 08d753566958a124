/** Edges of promises 11 to 17: tables, eaters, marks, the law, the pot, needs, the order. */
final class EdgesOfTables {
    private EdgesOfTables() {
    }

    static void all(Edges edges) {
        table(edges);
        tableIsRefused(edges);
        eater(edges);
        mark(edges);
        markOfNotaryAndDog(edges);
        markOfChild(edges);
        markIsRefused(edges);
        law(edges);
        pot(edges);
        need(edges);
        order(edges);
    }

    private static void table(Edges edges) {
        edges.says(11, "A TABLE by a TEXT (anew").of(
            "TABLE 'p9 e1 g2 c3' -> 3", "need(0, 50) -> 1", "pot(40) -> 9", "TABLE 'p7 n4' -> 1", "count(0) -> 1",
            "count(1) -> 4",
            "eater(0, 0) -> 1 asks 3", "eater(0, 1) -> 1 asks 4", "eater(1, 0) -> BAD", "pot(1) -> 7",
            "TABLE 'p7' -> 0", "count(0) -> 0", "count(1) -> 0", "eater(0, 0) -> BAD");
        edges.says(11, "LAW 0, if none is told").of(
            "law(3) -> 0", "TABLE 'p9 e1' -> 1", "law(2) -> 0", "TABLE 'p9' -> 0", "law(1) -> 0", "TABLE 'p9 l3' -> 0",
            "law(0) -> 3");
        edges.says(11, "the ORDER by numbers").of(
            "TABLE 'p9 e1 e1' -> 2", "ROW 0: 1 0", "order(0) -> 2", "TABLE 'p9 e1 e1' -> 2", "eater(0, 2) -> 1 asks 0",
            "eater(1, 2) -> 1 asks 1", "eat() -> 0", "eat() -> 1");
        edges.says(11, "an EVENING BY PARTS is begun").of(
            "TABLE 'p10 e1 e1' -> 2", "begin(1) -> 2", "eat() -> 0 tells 6/1", "TABLE 'p10 e1 e1' -> 2",
            "count(4) -> 0",
            "left() -> 0 tells 10/1", "took(0) -> STATE", "eat() -> 0 tells 20/3");
        edges.says(11, "kept EVENINGS go").of(
            "TABLE 'p9 e1 e1' -> 2", "keep(0) -> 0", "eat() -> 0", "keep(1) -> 1", "keep(2) -> 1", "count(5) -> 3",
            "TABLE 'p9 e1 e1' -> 2", "count(5) -> 0", "on(0) -> NOTHING", "on(1) -> NOTHING", "on(2) -> NOTHING");
        edges.says(11, "how many EATERS").of("TABLE 'p1' -> 0", "TABLE 'p1 d0' -> 1", "TABLE 'p1e0g0c0n0d0k0e0' -> 7");
    }

    private static void tableIsRefused(Edges edges) {
        edges.says(11, "BAD").of(
            "TABLE 'p9 e1' -> 1", "table(-1) -> BAD", "table(4) -> BAD", "table(MAX) -> BAD", "table(MIN) -> BAD");
        edges.says(11, "NOTHING").of("TABLE 'p9 e1' -> 1", "table(1) -> NOTHING", "table(3) -> NOTHING");
        edges.says(11, "STATE: a FAULT").of(
            "TABLE 'p9 l2 e1 e2' -> 2", "ROW 0: 1 0", "order(0) -> 2", "eat() -> 0", "keep(2) -> 1",
            "TABLE '' -> STATE", "TABLE 'p5 l1 g3 x' -> STATE", "TABLE 'p0' -> STATE",
            "TABLE 'p5 e1e1e1e1e1e1e1e1' -> STATE",
            "TABLE 'p5 e1 l1' -> STATE", "TABLE 'p5 e' -> STATE",
            "count(0) -> 2", "eater(1, 1) -> 1 asks 2", "eater(1, 2) -> 1 asks 0", "pot(9) -> 9", "law(2) -> 2",
            "left() -> 1 tells 9/2",
            "on(2) -> 1");
        edges.says(11, "(STATE behind NOTHING.)").of(
            "table(0) -> NOTHING", "text(0, 0) -> 0", "table(0) -> STATE", "table(3) -> NOTHING", "table(4) -> BAD");
    }

    private static void eater(Edges edges) {
        edges.says(12, "0 its KIND, 1 its NEED, 2 its place in the ORDER as told, all told by asked(): 1").of(
            "TABLE 'p9 e0 g99 c1 n2 d3 k4 e5' -> 7", "eater(0, 0) -> 1 asks 0", "eater(5, 0) -> 1 asks 5",
            "eater(6, 0) -> 1 asks 0",
            "eater(0, 1) -> 1 asks 0", "eater(1, 1) -> 1 asks 99", "eater(6, 1) -> 1 asks 5", "eater(0, 2) -> 1 asks 0",
            "eater(6, 2) -> 1 asks 6", "ROW 0: 6 5 4 3 2 1 0", "order(0) -> 7", "eater(0, 2) -> 1 asks 6",
            "eater(3, 2) -> 1 asks 3",
            "eater(6, 2) -> 1 asks 0", "eat() -> 0", "eater(0, 2) -> 1 asks 6");
        edges.says(12, "BAD").of(
            "eater(0, 0) -> BAD", "TABLE 'p9 e1 e1' -> 2", "eater(-1, 0) -> BAD", "eater(2, 0) -> BAD",
            "eater(7, 1) -> BAD",
            "eater(MAX, 2) -> BAD", "eater(MIN, 2) -> BAD", "eater(0, -1) -> BAD", "eater(0, 3) -> BAD",
            "eater(1, MAX) -> BAD",
            "eater(1, MIN) -> BAD", "eater(1, 2) -> 1 asks 1");
    }

    private static void mark(Edges edges) {
        edges.says(13,
                "a GUEST (CHILD, too) how many stand ahead of it in the ORDER as told (not that of the EVENING)").of(
            "TABLE 'p9 g1 e1 k1 e1 e1 k1 g1' -> 7", "mark(0, 1) -> 0", "mark(2, 1) -> 2", "mark(5, 1) -> 5",
            "mark(6, 1) -> 6",
            "ROW 0: 6 5 4 3 2 1 0", "order(0) -> 7", "mark(0, 1) -> 6", "mark(6, 1) -> 0", "mark(5, 1) -> 1",
            "eat() -> 0", "mark(0, 1) -> 6",
            "TABLE 'p9 k1' -> 1", "mark(0, 1) -> 0");
        edges.says(13, "a CHEAT how many behind it").of(
            "TABLE 'p9 c1 e1 e1 c1 e1 e1 c1' -> 7", "mark(0, 2) -> 6", "mark(3, 2) -> 3", "mark(6, 2) -> 0",
            "ROW 0: 6 5 4 3 2 1 0", "order(0) -> 7", "mark(0, 2) -> 0", "mark(6, 2) -> 6", "eat() -> 0",
            "mark(0, 2) -> 0",
            "TABLE 'p9 c1' -> 1", "mark(0, 2) -> 0");
    }

    private static void markOfNotaryAndDog(Edges edges) {
        edges.says(13,
                "a NOTARY by how many pieces its NEED is less than what the first one MAY take BY PIECES of the POT"
                + " as told (perhaps below 0)").of(
            "TABLE 'p1 d9 n0' -> 2", "mark(1, 3) -> 0", "need(1, 1) -> 0", "mark(1, 3) -> -1", "need(1, 3) -> 1",
            "mark(1, 3) -> -3",
            "need(1, 4) -> 3", "mark(1, 3) -> -4", "need(1, 9) -> 4", "mark(1, 3) -> -9", "need(1, 99) -> 9",
            "mark(1, 3) -> -99",
            "finding() -> 0", "findings(3) -> 0", "left() -> 0 tells 1/1",
            "pot(999) -> 1", "need(1, 0) -> 99", "mark(1, 3) -> 666", "law(1) -> 0", "mark(1, 3) -> 749", "law(2) -> 1",
            "mark(1, 3) -> 499",
            "law(3) -> 2", "mark(1, 3) -> 666", "left() -> 0 tells 1/1");
        edges.says(13,
                "a DOG how many would be FED in an EVENING BY PIECES, if it were last (others as they stand)").of(
            "TABLE 'p1 d9' -> 1", "mark(0, 4) -> 0", "need(0, 1) -> 9", "mark(0, 4) -> 1",
            "TABLE 'p999 d0 e0 e0 e0 e0 e0 e0' -> 7", "mark(0, 4) -> 7",
            // By pieces of 27 with the dog last: e 18, e 6, and 3 for the dog.
            "TABLE 'p27 d4 e18 e6' -> 3", "mark(0, 4) -> 2", "need(0, 3) -> 4", "mark(0, 4) -> 3", "need(1, 19) -> 18",
            "mark(0, 4) -> 2",
            "evening(1) -> 1 asks 1", "ROW 0: 2 0 1", "order(0) -> 3", "mark(0, 4) -> 2", "need(2, 19) -> 6",
            "mark(0, 4) -> 1",
            "eater(0, 2) -> 1 asks 1",
            // 2 of 4 and 1 of 2 for the others, the last for the dog; by parts the first would have 8/3.
            "TABLE 'p4 e3 e1 d1' -> 3", "mark(2, 4) -> 2");
    }

    private static void markOfChild(Edges edges) {
        edges.says(13, "a CHILD whether it TOOK just its NEED in the EVENING (1, 0; not eaten yet: 0)").of(
            "TABLE 'p9 k3 k0' -> 2", "mark(0, 5) -> 0", "mark(1, 5) -> 0", "eat() -> 0 tells 3/1", "mark(0, 5) -> 1",
            "mark(1, 5) -> 0",
            "eat() -> 1 tells 0/1", "mark(1, 5) -> 1", "need(0, 2) -> 3", "mark(0, 5) -> 0", "need(0, 4) -> 2",
            "mark(0, 5) -> 0",
            "need(0, 3) -> 4", "mark(0, 5) -> 1", "begin(0) -> 2", "mark(0, 5) -> 0", "mark(1, 5) -> 0",
            // 10/3 of 10 are a third more than 3, and less than 4; by pieces they are 3.
            "TABLE 'p10 k4' -> 1", "eat() -> 0 tells 10/3", "mark(0, 5) -> 0", "need(0, 3) -> 4", "mark(0, 5) -> 0",
            "begin(1) -> 1", "eat() -> 0 tells 3/1", "mark(0, 5) -> 1", "need(0, 4) -> 3", "mark(0, 5) -> 0");
    }

    private static void markIsRefused(Edges edges) {
        edges.says(13, "BAD: also KIND 0").of(
            "mark(0, 1) -> BAD", "TABLE 'p9 e1 k1' -> 2", "mark(0, 0) -> BAD", "mark(1, 0) -> BAD",
            "mark(0, -1) -> BAD", "mark(1, 6) -> BAD",
            "mark(1, MAX) -> BAD", "mark(1, MIN) -> BAD", "mark(-1, 1) -> BAD", "mark(2, 1) -> BAD",
            "mark(MAX, 5) -> BAD",
            "mark(MIN, 5) -> BAD", "mark(2, 0) -> BAD");
        String[] letters = {"e", "g", "c", "n", "d", "k"};
        for (int own = 0; own < letters.length; own++) {
            Run run = edges.says(13, "UNLIKE").of("TABLE 'p9 " + letters[own] + "1' -> 1");
            for (int kind = 1; kind <= 5; kind++) {
                if (kind != own && !(own == 5 && kind == 1)) {
                    run.of("mark(0, " + kind + ") -> UNLIKE");
                }
            }
        }
    }

    private static void law(Edges edges) {
        edges.says(14, "The LAW is v (0 .. 3; at once): what it was").of(
            "law(0) -> 0", "law(3) -> 0", "law(3) -> 3", "law(0) -> 3",
            "TABLE 'p96 e1 e1 e1' -> 3", "eat() -> 0 tells 64/1", "law(2) -> 0", "eat() -> 1 tells 16/1", "law(1) -> 2",
            "eat() -> 2 tells 12/1",
            "law(0) -> 1");
        edges.says(14, "BAD").of(
            "law(-1) -> BAD", "law(4) -> BAD", "law(MAX) -> BAD", "law(MIN) -> BAD", "law(3) -> 0", "law(4) -> BAD",
            "law(0) -> 3");
    }

    private static void pot(Edges edges) {
        edges.says(15, "The POT (of EVENINGS that are begun from then on) is v (1 .. 999): what it was").of(
            "pot(1) -> 0", "left() -> 0 tells 0/1", "begin(0) -> 0", "left() -> 0 tells 1/1", "pot(999) -> 1",
            "left() -> 0 tells 1/1",
            "evening(0) -> 0 tells 999/1", "begin(1) -> 0", "left() -> 0 tells 999/1", "pot(999) -> 999",
            "TABLE 'p9 e1 e1' -> 2", "eat() -> 0 tells 6/1", "pot(900) -> 9", "eat() -> 1 tells 2/1", "begin(0) -> 2",
            "eat() -> 0 tells 600/1");
        edges.says(15, "BAD").of(
            "pot(0) -> BAD", "pot(-1) -> BAD", "pot(1000) -> BAD", "pot(MAX) -> BAD", "pot(MIN) -> BAD",
            "pot(999) -> 0",
            "pot(1000) -> BAD", "pot(1) -> 999", "pot(0) -> BAD", "pot(2) -> 1");
    }

    private static void need(Edges edges) {
        edges.says(16, "NEED of an EATER is v (0 .. 99; at once): what it was").of(
            "TABLE 'p9 e5 e1 n1 e0 e1 e1 e99' -> 7", "need(0, 0) -> 5", "need(0, 99) -> 0", "need(6, 0) -> 99",
            "need(6, 99) -> 0",
            "eat() -> 0 tells 6/1", "fed() -> 0 asks 0", "need(0, 6) -> 99", "fed() -> 1 asks 1", "need(0, 7) -> 6",
            "fed() -> 0 asks 0",
            "eat() -> 1 tells 2/1", "need(2, 0) -> 1", "eat() -> 2 tells 0/1", "fed() -> 6 asks 2", "need(2, 1) -> 0",
            "fed() -> 2 asks 1");
        edges.says(16, "BAD").of(
            "need(0, 0) -> BAD", "TABLE 'p9 e5 e6' -> 2", "need(0, -1) -> BAD", "need(0, 100) -> BAD",
            "need(1, MAX) -> BAD",
            "need(1, MIN) -> BAD", "need(-1, 1) -> BAD", "need(2, 1) -> BAD", "need(MAX, 1) -> BAD",
            "need(MIN, 1) -> BAD",
            "need(0, 5) -> 5", "need(1, 6) -> 6");
    }

    private static void order(Edges edges) {
        edges.says(17, "The ORDER (of those that are begun from then on) is a ROW: how many").of(
            "row(0, 0) -> 0", "order(0) -> 0", "TABLE 'p9 e1' -> 1", "ROW 5: 0", "order(5) -> 1",
            "TABLE 'p9 e1 e1 e1 e1 e1 e1 e1' -> 7", "ROW 5: 6 5 4 3 2 1 0", "eat() -> 0", "order(5) -> 7", "eat() -> 1",
            "begin(0) -> 7",
            "eat() -> 6", "lay(5, 1, 0) -> 1", "eat() -> 5", "tear(5) -> 1", "eat() -> 4");
        edges.says(17, "BAD").of(
            "row(0, 0) -> 0", "order(-1) -> BAD", "order(6) -> BAD", "order(MAX) -> BAD", "order(MIN) -> BAD");
        edges.says(17, "NOTHING").of(
            "order(0) -> NOTHING", "TABLE 'p9 e1' -> 1", "order(5) -> NOTHING", "ROW 5: 0", "tear(5) -> 1",
            "order(5) -> NOTHING");
        edges.says(17, "SIZE: not as many as EATERS").of(
            "ROW 0: 0", "order(0) -> SIZE", "TABLE 'p9 e1 e1' -> 2", "row(1, 0) -> 0", "order(1) -> SIZE",
            "order(0) -> SIZE",
            "ROW 1: 0 1 2", "order(1) -> SIZE", "ROW 1: 7 7 7", "order(1) -> SIZE", "row(1, 60) -> 60",
            "order(1) -> SIZE",
            "ROW 1: 1 0", "order(1) -> 2");
        edges.says(17, "UNLIKE: none of them, or one twice").of(
            "TABLE 'p9 e1 e1' -> 2", "ROW 0: 0 2", "order(0) -> UNLIKE", "ROW 0: -1 0", "order(0) -> UNLIKE",
            "ROW 0: 1 1", "order(0) -> UNLIKE",
            "ROW 0: 0 0", "order(0) -> UNLIKE", "ROW 0: 0 33", "order(0) -> UNLIKE", "ROW 0: MAX 0",
            "order(0) -> UNLIKE",
            "ROW 0: 1 MIN", "order(0) -> UNLIKE", "eater(0, 2) -> 1 asks 0", "ROW 0: 1 0", "order(0) -> 2",
            "NEW", "TABLE 'p9 e1 e1 e1 e1 e1 e1 e1' -> 7", "ROW 0: 6 5 4 3 2 1 6", "order(0) -> UNLIKE",
            "ROW 0: 7 5 4 3 2 1 0", "order(0) -> UNLIKE");
    }
}
