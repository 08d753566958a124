/** Edges named ahead of promise 1: answers, rows, tables, kinds, laws, orders. */
final class EdgesOfTerms {
    private EdgesOfTerms() {
    }

    static void all(Edges edges) {
        calls(edges);
        refused(edges);
        refusedChangesNothing(edges);
        findings(edges);
        fractionsAndSets(edges);
        rowsAndTexts(edges);
        tables(edges);
        faults(edges);
        laws(edges);
        taken(edges);
        orders(edges);
    }

    private static void calls(Edges edges) {
        // One row(), 509 lay(), and two calls more.
        Run run = edges.says(0, "An object is used for at most 512 calls after it has been made").of("row(0, 1) -> 1");
        for (int i = 1; i <= 509; i++) {
            run.of("lay(0, 0, " + i + ") -> 1");
        }
        run.of("at(0, 0) -> 1 asks 509");
    }

    private static void refused(Edges edges) {
        edges.says(0,
                "Refused is, the first of these that fits, in this order: BAD -1 (a number that is none, or not as"
                + " told), FULL -2, STATE -4 (not now), SPENT -6 (more than told), FINDING -3 (finding() tells"
                + " which), unless a call says so otherwise.").of(
            "row(6, -1) -> BAD", "text(4, -1) -> BAD", "lay(6, -1, 0) -> BAD", "put(4, -1, 0) -> BAD",
            "copy(0, 0, 6, 0, -1) -> BAD", "mean(6) -> BAD", "order(6) -> BAD", "mark(0, 1) -> BAD",
            "keep(3) -> BAD", "keep(0) -> STATE", "on(3) -> BAD", "on(0) -> NOTHING",
            "best(0, 6) -> BAD", "best(2, 0) -> BAD", "best(0, 0) -> STATE",
            "even(5, 0) -> BAD", "even(4, 0) -> STATE", "bones(1000) -> BAD", "bones(999) -> STATE",
            "last(1000) -> BAD", "last(999) -> NOUGHT", "famine(8, 0) -> BAD", "famine(7, 0) -> STATE",
            "kindest(0, 0) -> BAD", "kindest(1, 0) -> STATE",
            "kitchens(41, 1, 0, 0) -> BAD", "kitchens(40, 1, 0, 0) -> STATE")
            .is("BAD", ThirdLeft.BAD, -1).is("FULL", ThirdLeft.FULL, -2).is("STATE", ThirdLeft.STATE, -4)
            .is("SPENT", ThirdLeft.SPENT, -6).is("FINDING", ThirdLeft.FINDING, -3).is("NONE", ThirdLeft.NONE, -9);
        edges.says(0, "NONE -9 (a ROW that something was to come to stays as it is then)").of(
            "TABLE 'p5 e99 e99 e99 e99' -> 4", "ROW 3: 8 7",
            "best(0, 3) -> NONE", "best(1, 3) -> NONE",
            "at(3, 0) -> 1 asks 8", "at(3, 1) -> 1 asks 7", "at(3, 2) -> BEYOND",
            "best(0, 2) -> NONE", "at(2, 0) -> NOTHING");
    }

    /** By the order c, g, e: of 81 pieces c took 67 and g 4 of 14; lay() told 2. */
    private static Run gone(Edges edges) {
        return edges.says(0, "What is refused changes nothing but finding(), findings().").of(
            "TABLE 'p81 e20 g5 c6' -> 3", "ROW 0: 2 1 0", "order(0) -> 3",
            "begin(1) -> 3", "eat() -> 2 tells 67/1", "keep(1) -> 1", "eat() -> 1 tells 4/1",
            "lay(0, 0, 2) -> 1 asks 2");
    }

    private static void refusedChangesNothing(Edges edges) {
        gone(edges).of(
            "row(0, 61) -> BAD", "row(0, -1) -> SIZE", "lay(0, 3, 9) -> BEYOND", "lay(1, 0, 9) -> NOTHING",
            "at(0, -1) -> BEYOND", "tear(1) -> NOTHING", "copy(0, 0, 0, 1, 3) -> BEYOND",
            "copy(0, 0, 1, 0, 1) -> NOTHING",
            "copy(0, 0, 0, 0, -1) -> SIZE", "mean(1) -> NOTHING", "text(0, 61) -> BAD", "text(0, -1) -> SIZE",
            "put(0, 60, 1) -> BEYOND", "put(1, 0, 1) -> NOTHING", "fault(4) -> BAD", "table(1) -> NOTHING",
            "eater(3, 0) -> BAD", "mark(0, 1) -> UNLIKE", "mark(0, 0) -> BAD", "law(4) -> BAD", "pot(1000) -> BAD",
            "need(0, 100) -> BAD", "order(1) -> NOTHING",
            "eat() -> 0 tells 6/1", "left() -> 3 tells 4/1", "on(1) -> 1", "left() -> 1 tells 14/1",
            "took(2) -> 1 tells 67/1");
        gone(edges).of(
            "begin(2) -> BAD", "took(0) -> STATE", "keep(3) -> BAD", "on(0) -> NOTHING", "evening(2) -> BAD",
            "place(0, 3, 0) -> BAD", "favours(3, 0) -> BAD", "least(2) -> BAD", "best(0, 6) -> BAD", "most(-1) -> BAD",
            "kind(2) -> BAD", "week(0, 8, 0) -> BAD", "even(5, 0) -> BAD", "two(2) -> BAD", "bones(1000) -> BAD",
            "last(999) -> NOUGHT", "last(-1) -> BAD", "ahead(0, 1, 999) -> NOUGHT", "ahead(0, 0, 4) -> BAD",
            "famine(8, 0) -> BAD", "kindest(0, 0) -> BAD", "kitchens(41, 1, 0, 0) -> BAD", "count(8) -> BAD",
            "findings(6) -> BAD",
            "eat() -> 0 tells 6/1", "left() -> 3 tells 4/1", "on(1) -> 1", "left() -> 1 tells 14/1",
            "took(2) -> 1 tells 67/1");
        gone(edges).of(
            "text(0, 3) -> 3", "put(0, 0, 112) -> 1032", "table(0) -> STATE", "fault(0) -> 1",
            "eat() -> 0 tells 6/1", "eat() -> STATE", "on(1) -> 1", "left() -> 1 tells 14/1",
            "took(2) -> 1 tells 67/1");
    }

    private static void findings(Edges edges) {
        edges.says(0, "1 NOTHING (a ROW, a TEXT, a kept EVENING that is missing)").of(
            "at(0, 0) -> NOTHING", "fault(3) -> NOTHING", "on(2) -> NOTHING", "finding() -> 1", "findings(1) -> 3");
        edges.says(0, "2 BEYOND (a place that there is not)").of(
            "row(0, 0) -> 0", "at(0, 0) -> BEYOND", "text(0, 1) -> 1", "put(0, 1, 5) -> BEYOND",
            "put(0, -1, 5) -> BEYOND",
            "finding() -> 2", "findings(2) -> 3");
        edges.says(0, "3 UNLIKE (an EATER of another KIND; a number that is none)").of(
            "TABLE 'p9 e1' -> 1", "mark(0, 1) -> UNLIKE", "ROW 0: 1", "order(0) -> UNLIKE", "finding() -> 3",
            "findings(3) -> 2");
        edges.says(0, "4 NOUGHT (shared among none)").of(
            "row(0, 0) -> 0", "mean(0) -> NOUGHT", "last(0) -> NOUGHT", "finding() -> 4", "findings(4) -> 2");
        edges.says(0, "5 SIZE (fewer than none; not as many as due)").of(
            "row(0, -1) -> SIZE", "text(0, -1) -> SIZE", "copy(0, 0, 0, 0, -1) -> SIZE",
            "TABLE 'p9 e1' -> 1", "row(0, 0) -> 0", "order(0) -> SIZE", "row(0, 2) -> 2", "order(0) -> SIZE",
            "finding() -> 5", "findings(5) -> 5");
    }

    private static void fractionsAndSets(Edges edges) {
        edges.says(0, "in lowest terms, the lower number above 0 (0 by 1)").of(
            "left() -> 0 tells 0/1",
            "TABLE 'p10 e1 e1' -> 2", "eat() -> 0 tells 20/3", "left() -> 1 tells 10/3", "eat() -> 1 tells 20/9",
            "week(0, 2, 0) -> 1 tells 80/9", "cheats() -> 1 tells 0/1",
            "pot(9) -> 10", "begin(0) -> 2", "eat() -> 0 tells 6/1", "left() -> 1 tells 3/1",
            "bones(9) -> 0 tells 0/1", "bones(1) -> 2 tells 1/1");
        edges.says(0, "Sets (of EATERS) are told by bits.").of(
            "evening(0) -> 0 asks 0",
            "TABLE 'p999 e0 e0 e0 e0 e0 e0 e0' -> 7", "fed() -> 0 asks 0", "evening(0) -> 127 asks 7",
            "two(1) -> 127 asks 7",
            "need(6, 99) -> 0", "evening(0) -> 63 asks 6",
            "last(1) -> 127 asks 127");
    }

    private static void rowsAndTexts(Edges edges) {
        edges.says(0, "ROWS 0 .. 5 are rows of 0 to 60 ints").of(
            "at(-1, 0) -> BAD", "at(6, 0) -> BAD", "row(0, 0) -> 0", "row(5, 60) -> 60", "row(5, 61) -> BAD",
            "lay(5, 59, MIN) -> 1 asks 0", "lay(5, 59, MAX) -> 1 asks MIN", "at(5, 59) -> 1 asks MAX",
            "at(5, 60) -> BEYOND", "at(0, 0) -> BEYOND");
        edges.says(0, "TEXTS 0 .. 3 rows of 0 to 60 bytes").of(
            "fault(-1) -> BAD", "fault(4) -> BAD", "text(0, 0) -> 0", "text(3, 60) -> 60", "text(3, 61) -> BAD",
            "put(3, 59, -128) -> 1032", "put(3, 59, 127) -> 872", "put(3, 59, 0) -> 1127",
            "put(3, 60, 0) -> BEYOND", "put(0, 0, 0) -> BEYOND");
        edges.says(0, "or missing (at first)").of(
            "at(0, 0) -> NOTHING", "at(1, 0) -> NOTHING", "at(2, 0) -> NOTHING", "at(3, 0) -> NOTHING",
            "at(4, 0) -> NOTHING",
            "at(5, 0) -> NOTHING", "fault(0) -> NOTHING", "fault(1) -> NOTHING", "fault(2) -> NOTHING",
            "fault(3) -> NOTHING");
    }

    private static void tables(Edges edges) {
        edges.says(0, "A TABLE (without EATERS at first) is a TEXT").of(
            "count(0) -> 0", "eater(0, 0) -> BAD", "begin(0) -> 0", "eat() -> STATE", "keep(0) -> STATE");
        String manyBlanks = " ".repeat(57);
        edges.says(0, "blanks (32) ahead, between, behind as many as wanted, none within items").of(
            "FAULT 'p9l1e1g2' -> NONE", "FAULT '   p9   l1   e1   g2   ' -> NONE",
            "FAULT '" + manyBlanks + " p9' -> NONE", "FAULT 'p9 " + manyBlanks + "' -> NONE",
            "FAULT 'p9" + manyBlanks + "x' -> 59",
            "FAULT 'p 9' -> 1", "FAULT 'p9 9' -> 3", "FAULT 'p9 l 1' -> 4", "FAULT 'p9 l1 1' -> 6",
            "FAULT 'p9 e 1' -> 4", "FAULT 'p9 e1 2' -> 6", "FAULT 'p9\te1' -> 2", "FAULT 'p9\0e1' -> 2",
            "FAULT 'p9\u00a0' -> 2");
        edges.says(0, "The first item is p (112)").of(
            "FAULT 'e1' -> 0", "FAULT 'l1' -> 0", "FAULT '9' -> 0", "FAULT 'P9' -> 0", "FAULT 'q9' -> 0",
            "FAULT 'o9' -> 0",
            "FAULT ' e1p9' -> 1", "FAULT '\u00f09' -> 0");
        edges.says(0, "how much is in the POT (1 .. 999, one to three figures)").of(
            "FAULT 'p' -> 1", "FAULT 'p0' -> 2", "FAULT 'p1' -> NONE", "FAULT 'p999' -> NONE", "FAULT 'p1000' -> 4",
            "FAULT 'p01' -> NONE", "FAULT 'p001' -> NONE", "FAULT 'p0001' -> 4", "FAULT 'p000' -> 4",
            "FAULT 'p0009' -> 4",
            "TABLE 'p999' -> 0", "left() -> 0 tells 999/1", "TABLE 'p001' -> 0", "left() -> 0 tells 1/1",
            "pot(10) -> 1",
            "TABLE 'p010e1' -> 1", "pot(7) -> 10");
        edges.says(0, "then, once at most, l (108) and the LAW (0 .. 3, one figure)").of(
            "FAULT 'p5' -> NONE", "FAULT 'p5l0' -> NONE", "FAULT 'p5l3' -> NONE", "FAULT 'p5l4' -> 3",
            "FAULT 'p5l9' -> 3",
            "FAULT 'p5l' -> 3", "FAULT 'p5l-' -> 3", "FAULT 'p5l00' -> 4", "FAULT 'p5l33' -> 4", "FAULT 'p5l0l0' -> 4",
            "FAULT 'l0p5' -> 0", "FAULT 'p5 L0' -> 3",
            "TABLE 'p5l3' -> 0", "law(1) -> 3", "TABLE 'p5 l0 e1' -> 1", "law(1) -> 0");
        edges.says(0, "then EATERS (none, or 7 at most; 0, 1, .. as they come)").of(
            "FAULT 'p9' -> NONE", "FAULT 'p9e1g1c1n1d1k1e1' -> NONE", "FAULT 'p9e1g1c1n1d1k1e1e1' -> 16",
            "TABLE 'p9' -> 0", "count(0) -> 0",
            "TABLE 'p9e1g2c3n4d5k6g7' -> 7", "count(0) -> 7", "eater(0, 0) -> 1 asks 0", "eater(0, 1) -> 1 asks 1",
            "eater(6, 0) -> 1 asks 1", "eater(6, 1) -> 1 asks 7", "eater(7, 0) -> BAD");
        edges.says(0, "a letter and the NEED (0 .. 99, one or two figures)").of(
            "FAULT 'p9e' -> 3", "FAULT 'p9e0' -> NONE", "FAULT 'p9e00' -> NONE", "FAULT 'p9e99' -> NONE",
            "FAULT 'p9e100' -> 5",
            "FAULT 'p9e000' -> 5", "FAULT 'p9e-1' -> 3",
            "TABLE 'p9e0g99c00n07' -> 4", "eater(0, 1) -> 1 asks 0", "eater(1, 1) -> 1 asks 99",
            "eater(2, 1) -> 1 asks 0",
            "eater(3, 1) -> 1 asks 7");
    }

    private static void faults(Edges edges) {
        edges.says(0, "a POT, a NEED out of these: the place behind").of(
            "FAULT 'p0' -> 2", "FAULT 'p00' -> 3", "FAULT 'p000' -> 4", "FAULT 'p0000' -> 4", "FAULT 'p0 e1' -> 2",
            "FAULT 'p00e1' -> 3", "FAULT 'p0x' -> 2", "FAULT '  p0  ' -> 4", "FAULT 'p1000' -> 4",
            "FAULT 'p9999e1' -> 4",
            "FAULT 'p9e100' -> 5", "FAULT 'p9 e999 g1' -> 6");
        edges.says(0, "a letter, a figure that is none such").of(
            "FAULT 'x' -> 0", "FAULT 'px' -> 1", "FAULT 'p/' -> 1", "FAULT 'p:' -> 1", "FAULT 'p9x1' -> 2",
            "FAULT 'p9E1' -> 2",
            "FAULT 'p9p9' -> 2", "FAULT 'p9/' -> 2", "FAULT 'p9:' -> 2", "FAULT 'p9 5' -> 3", "FAULT 'p9lx' -> 3",
            "FAULT 'p9l/' -> 3", "FAULT 'p9l:' -> 3", "FAULT 'p9ex' -> 3", "FAULT 'p9e/' -> 3", "FAULT 'p9e:' -> 3",
            "FAULT 'p9e1:' -> 4", "FAULT 'p9e1x1' -> 4",
            "FAULT 'p9a1' -> 2", "FAULT 'p9b1' -> 2", "FAULT 'p9f1' -> 2", "FAULT 'p9h1' -> 2", "FAULT 'p9j1' -> 2",
            "FAULT 'p9m1' -> 2", "FAULT 'p9o1' -> 2", "FAULT 'p9\u00e51' -> 2", "FAULT 'p9e\u00b1' -> 3");
        edges.says(0, "an eighth EATER").of(
            "FAULT 'p9e1e1e1e1e1e1e1' -> NONE", "FAULT 'p9e1e1e1e1e1e1e1k1' -> 16",
            "FAULT 'p9 e1 e1 e1 e1 e1 e1 e1 d' -> 24",
            "FAULT 'p9l0e1e1e1e1e1e1e1e1' -> 18", "FAULT 'p9e1e1e1e1e1e1e1 x' -> 17",
            "FAULT 'p9e1e1e1e1e1e1e11' -> NONE",
            "FAULT 'p9e1e1e1e1e1e1e111' -> 17");
        edges.says(0, "a LAW behind others").of(
            "FAULT 'p9e1l1' -> 4", "FAULT 'p9 e1 l' -> 6", "FAULT 'p9l1e1l1' -> 6", "FAULT 'p9e1e1e1e1e1e1e1l1' -> 16");
        edges.says(0, "a second one: its place").of(
            "FAULT 'p9l1l1' -> 4", "FAULT 'p9 l1 l2 e1' -> 6", "FAULT 'p9l0l' -> 4");
        edges.says(0, "the TEXT's size, if its end comes too early, or there are blanks alone").of(
            "FAULT '' -> 0", "FAULT ' ' -> 1", "FAULT '" + " ".repeat(60) + "' -> 60", "FAULT 'p' -> 1",
            "FAULT '  p' -> 3",
            "FAULT 'p9l' -> 3", "FAULT 'p9 e' -> 4", "FAULT 'p9 l1 e1 k' -> 10",
            "FAULT '" + " ".repeat(59) + "p' -> 60");
        // What stood in a longer TEXT ahead is not there any more.
        edges.says(0, "A FAULT is the first place at which it can't go on so").of(
            "TABLE 'p9e12' -> 1", "text(0, 3) -> 3", "fault(0) -> 3", "put(0, 0, 112) -> 1032", "put(0, 1, 57) -> 1032",
            "put(0, 2, 101) -> 1032", "fault(0) -> 3", "put(0, 2, 120) -> 1101", "put(0, 0, 120) -> 1112",
            "fault(0) -> 0");
    }

    private static void laws(Edges edges) {
        edges.says(0, "0 a third, 1 a quarter, 2 a half").of(
            "TABLE 'p12 l0 e1' -> 1", "eat() -> 0 tells 8/1", "law(1) -> 0", "begin(0) -> 1", "eat() -> 0 tells 9/1",
            "law(2) -> 1", "begin(0) -> 1", "eat() -> 0 tells 6/1", "law(3) -> 2", "begin(0) -> 1",
            "eat() -> 0 tells 8/1");
        edges.says(0,
                "3 a third by the first one who eats, a half by the second one, again a third by the next, and so"
                + " on").of(
            "TABLE 'p648 l3 e1 e1 e1 e1 e1 e1 e1' -> 7", "eat() -> 0 tells 432/1", "eat() -> 1 tells 108/1",
            "eat() -> 2 tells 72/1", "eat() -> 3 tells 18/1", "eat() -> 4 tells 12/1", "eat() -> 5 tells 3/1",
            "eat() -> 6 tells 2/1",
            "left() -> 7 tells 1/1");
        edges.says(0, "(as they eat in the EVENING, whatever the LAW was ahead)").of(
            "TABLE 'p96 l1 e1 e1 e1 e1' -> 4", "eat() -> 0 tells 72/1", "law(3) -> 1", "eat() -> 1 tells 12/1",
            "law(2) -> 3",
            "eat() -> 2 tells 6/1", "law(3) -> 2", "eat() -> 3 tells 3/1");
    }

    private static void taken(Edges edges) {
        edges.says(0, "by a NOTARY that, but no more than its NEED").of(
            "TABLE 'p9 n0' -> 1", "eat() -> 0 tells 0/1",
            "need(0, 5) -> 0", "begin(0) -> 1", "eat() -> 0 tells 5/1", "need(0, 6) -> 5", "begin(0) -> 1",
            "eat() -> 0 tells 6/1",
            "need(0, 7) -> 6", "begin(0) -> 1", "eat() -> 0 tells 6/1",
            "pot(10) -> 9", "begin(0) -> 1", "eat() -> 0 tells 20/3", "need(0, 6) -> 7", "begin(0) -> 1",
            "eat() -> 0 tells 6/1");
        edges.says(0, "by a DOG all that is there").of(
            "TABLE 'p9 d0 d0 e0 c0' -> 4", "eat() -> 0 tells 9/1", "left() -> 1 tells 0/1", "eat() -> 1 tells 0/1",
            "eat() -> 2 tells 0/1", "eat() -> 3 tells 0/1", "evening(1) -> 15 asks 4 tells 0/1");
        edges.says(0, "by a CHILD what a GUEST would, but no more than its NEED").of(
            "TABLE 'p9 k0' -> 1", "eat() -> 0 tells 0/1",
            "need(0, 2) -> 0", "begin(0) -> 1", "eat() -> 0 tells 2/1", "need(0, 3) -> 2", "begin(0) -> 1",
            "eat() -> 0 tells 3/1",
            "need(0, 4) -> 3", "begin(0) -> 1", "eat() -> 0 tells 3/1",
            "pot(10) -> 9", "begin(0) -> 1", "eat() -> 0 tells 10/3", "need(0, 3) -> 4", "begin(0) -> 1",
            "eat() -> 0 tells 3/1");
        edges.says(0, "BY PARTS (0) all of this is by fractions").of(
            "TABLE 'p1 e0 g0 c0' -> 3", "eat() -> 0 tells 2/3", "eat() -> 1 tells 1/9", "eat() -> 2 tells 5/27",
            "left() -> 3 tells 1/27",
            // The smallest shares there are: seven that leave a sixth, seven that leave five eighths.
            "TABLE 'p1 c0 c0 c0 c0 c0 c0 c0' -> 7", "evening(0) -> 127 asks 7 tells 1/279936",
            "place(0, 6, 0) -> 1 tells 5/279936",
            "TABLE 'p999 l1 g0 g0 g0 g0 g0 g0 g0' -> 7", "evening(0) -> 127 asks 7 tells 78046875/2097152");
        String pieces =
                "BY PIECES (1) nothing is cut: the POT is whole pieces; what one MAY take is cut down to whole"
                + " ones, then half of that (GUEST, CHILD), half of what is left (CHEAT), each cut down, too.";
        // By the POTS 1 to 5: what one takes by a third, a quarter, a half.
        int[][] eater = {{0, 0, 0}, {1, 1, 1}, {2, 2, 1}, {2, 3, 2}, {3, 3, 2}};
        int[][] guest = {{0, 0, 0}, {0, 0, 0}, {1, 1, 0}, {1, 1, 1}, {1, 1, 1}};
        int[][] cheat = {{0, 0, 0}, {1, 1, 1}, {2, 2, 2}, {3, 3, 3}, {4, 4, 3}};
        for (int pot = 1; pot <= 5; pot++) {
            for (int law = 0; law <= 2; law++) {
                edges.says(0, pieces).of(
                    "TABLE 'p" + pot + " l" + law + " e0 g0 k9 c0 n9' -> 5",
                    "place(0, 0, 1) -> 1 tells " + eater[pot - 1][law] + "/1",
                    "place(1, 0, 1) -> 1 tells " + guest[pot - 1][law] + "/1",
                    "place(2, 0, 1) -> 1 tells " + guest[pot - 1][law] + "/1",
                    "place(3, 0, 1) -> 1 tells " + cheat[pot - 1][law] + "/1",
                    "place(4, 0, 1) -> 1 tells " + eater[pot - 1][law] + "/1");
            }
        }
    }

    private static void orders(Edges edges) {
        edges.says(0, "An ORDER is a row of all EATERS, each once (at first by numbers).").of(
            "TABLE 'p9 e1 e1 e1 e1 e1 e1 e1' -> 7", "eater(0, 2) -> 1 asks 0", "eater(6, 2) -> 1 asks 6", "eat() -> 0",
            "eat() -> 1",
            "ROW 0: 6 5 4 3 2 1 0", "order(0) -> 7", "begin(0) -> 7", "eat() -> 6", "eat() -> 5",
            "ROW 1: 6 5 4 3 2 1 1", "order(1) -> UNLIKE", "ROW 2: 6 5 4 3 2 1", "order(2) -> SIZE");
        edges.says(0, "FED is one who TOOK its NEED or more.").of(
            "TABLE 'p10 e6' -> 1", "evening(0) -> 1 asks 1", "evening(1) -> 1 asks 1",
            // 20/3 are a third short of 7.
            "need(0, 7) -> 6", "evening(0) -> 0 asks 0", "evening(1) -> 0 asks 0", "eat() -> 0 tells 20/3",
            "fed() -> 0 asks 0",
            "need(0, 6) -> 7", "fed() -> 1 asks 1", "need(0, 0) -> 6", "fed() -> 1 asks 1",
            "TABLE 'p9 e6' -> 1", "evening(0) -> 1 asks 1", "TABLE 'p1 d1 e0 e1' -> 3", "evening(0) -> 3 asks 2");
        edges.says(0,
                "ORDERS are gone through by their first EATERS, then their second ones, ..: of alike ones the first"
                + " is told.").of(
            "TABLE 'p1 d0 e5 e5' -> 3", "ROW 0: 2 1 0", "order(0) -> 3", "best(0, 1) -> 23", "at(1, 0) -> 1 asks 1",
            "at(1, 1) -> 1 asks 2", "at(1, 2) -> 1 asks 0",
            "need(1, 0) -> 5", "best(0, 1) -> 8", "at(1, 0) -> 1 asks 2", "at(1, 1) -> 1 asks 0",
            "at(1, 2) -> 1 asks 1");
        // By a half of 128 each place has half of what the one ahead has: 64 down to 1.
        edges.says(0,
                "The ORDER TURNED by d: that which begins with its place d (0 .. as many as EATERS less 1), and"
                + " goes on, round about.").of(
            "TABLE 'p128 l2 e1 e1 e1 e1 e1 e1 e1' -> 7", "week(0, 1, 0) -> 1 tells 64/1",
            "week(0, 2, 0) -> 1 tells 65/1",
            "week(0, 7, 0) -> 1 tells 127/1", "week(6, 1, 0) -> 1 tells 1/1", "week(6, 2, 0) -> 1 tells 3/1",
            "week(6, 7, 0) -> 1 tells 127/1", "week(1, 2, 0) -> 1 tells 96/1", "week(1, 3, 0) -> 1 tells 97/1");
    }
}
