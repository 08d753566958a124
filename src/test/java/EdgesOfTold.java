import java.math.BigInteger;

/** Edges of promises 43 to 49: what is told. */
final class EdgesOfTold {
    private EdgesOfTold() {
    }

    static void all(Edges edges) {
        asked(edges);
        fractions(edges);
        count(edges);
        findings(edges);
        digest(edges);
    }

    private static void asked(Edges edges) {
        edges.says(43,
                "What the latest lay(), at(), mean(), eater(), fed(), evening(), most(), kind(), even(), two(),"
                + " scales(), last(), kindest() that was not refused (nor NONE) told; 0 before.").of(
            "asked() -> 0", "law(3) -> 0", "pot(50) -> 0", "row(0, 2) -> 2", "asked() -> 0",
            "ROW 0: 40 MIN", "at(0, 0) -> 1 asks 40", "at(0, 2) -> BEYOND", "asked() -> 40", "lay(0, 2, 1) -> BEYOND",
            "mean(1) -> NOTHING",
            "even(1, 0) -> STATE", "kind(2) -> BAD", "last(0) -> NOUGHT", "asked() -> 40", "at(0, 1) -> 1 asks MIN",
            "NEW", "TABLE 'p9 e99 e99 e99 e99 e99' -> 5", "eater(0, 1) -> 1 asks 99", "kindest(1, 0) -> NONE",
            "asked() -> 99",
            "kindest(5, 0) -> 1 asks 132", "kindest(1, 0) -> NONE", "asked() -> 132", "fault(0) -> NONE",
            "asked() -> 132");
    }

    private static void fractions(Edges edges) {
        edges.says(44, "The upper number of the fraction that was told last; 0 before.").of(
            "upper() -> 0", "pot(9) -> 0", "law(2) -> 0", "fed() -> 0", "upper() -> 0", "left() -> 0", "upper() -> 0",
            "evening(0) -> 0",
            "upper() -> 9", "evening(2) -> BAD", "bones(0) -> STATE", "upper() -> 9");
        edges.says(45, "Its lower number; 1 before.").of(
            "lower() -> 1", "pot(9) -> 0", "left() -> 0", "lower() -> 1", "TABLE 'p1 e1' -> 1", "lower() -> 1",
            "eat() -> 0", "lower() -> 3",
            "eat() -> STATE", "took(1) -> BAD", "lower() -> 3", "bones(999) -> 0", "lower() -> 1");
    }

    private static void count(Edges edges) {
        edges.says(46,
                "0 EATERS, 1 all NEEDS together, 2 GUESTS (CHILDREN, too), 3 CHEATS, 4 how many have eaten, 5 kept"
                + " EVENINGS, 6 ROWS, 7 TEXTS that are there").of(
            "count(0) -> 0", "count(1) -> 0", "count(2) -> 0", "count(3) -> 0", "count(4) -> 0", "count(5) -> 0",
            "count(6) -> 0", "count(7) -> 0",
            "TABLE 'p9 c99 c99 c99 c99 c99 c99 c99' -> 7", "count(0) -> 7", "count(1) -> 693", "count(2) -> 0",
            "count(3) -> 7", "count(4) -> 0",
            "eat() -> 0", "eat() -> 1", "eat() -> 2", "eat() -> 3", "eat() -> 4", "eat() -> 5", "eat() -> 6",
            "count(4) -> 7",
            "keep(0) -> 7", "keep(1) -> 7", "keep(2) -> 7", "keep(2) -> 7", "count(5) -> 3",
            "row(0, 0) -> 0", "row(1, 0) -> 0", "row(2, 0) -> 0", "row(3, 0) -> 0", "row(4, 0) -> 0", "row(5, 0) -> 0",
            "row(5, 0) -> 0",
            "count(6) -> 6", "text(0, 0) -> 0", "text(1, 0) -> 0", "text(2, 0) -> 0", "text(3, 0) -> 0",
            "count(7) -> 4",
            "TABLE 'p9 k1 g1 k1 g1 k1 g1 k1' -> 7", "count(2) -> 7", "count(3) -> 0", "count(4) -> 0", "count(5) -> 0");
        edges.says(46, "BAD").of("count(-1) -> BAD", "count(8) -> BAD", "count(MAX) -> BAD", "count(MIN) -> BAD");
    }

    private static void findings(Edges edges) {
        edges.says(47, "The latest FINDING (0 before any)").of(
            "finding() -> 0", "row(0, 61) -> BAD", "bones(0) -> STATE", "finding() -> 0", "row(0, -1) -> SIZE",
            "finding() -> 5",
            "at(0, 0) -> NOTHING", "finding() -> 1", "row(0, 61) -> BAD", "bones(0) -> STATE", "findings(9) -> BAD",
            "finding() -> 1");
        edges.says(48, "How often a FINDING (1 .. 5) was answered").of(
            "findings(1) -> 0", "findings(2) -> 0", "findings(3) -> 0", "findings(4) -> 0", "findings(5) -> 0",
            "at(0, 0) -> NOTHING", "tear(0) -> NOTHING", "findings(1) -> 2", "row(0, -1) -> SIZE", "row(0, -1) -> SIZE",
            "row(0, -1) -> SIZE",
            "findings(5) -> 3", "findings(1) -> 2", "findings(2) -> 0");
        edges.says(48, "BAD").of(
            "findings(0) -> BAD", "findings(6) -> BAD", "findings(-1) -> BAD", "findings(MAX) -> BAD",
            "findings(MIN) -> BAD");
    }

    private static void digest(Edges edges) {
        // Eight counts, the POT, the LAW, BY PARTS, 0 by 1, three EVENINGS, six ROWS, four TEXTS.
        edges.says(49,
                "of each kept EVENING how many have eaten (-1: missing); of each ROW its size (-1: missing) and"
                + " places, of each TEXT likewise.").of(
            digestOf(0, 0, 0, 0, 0, 0, 0, 0, 0, 0, 0, 0, 1, -1, -1, -1, -1, -1, -1, -1, -1, -1, -1, -1, -1, -1),
            "row(0, 0) -> 0", "ROW 5: MIN MAX", "text(0, 0) -> 0", "text(3, 1) -> 1", "put(3, 0, -128) -> 1032",
            digestOf(0, 0, 0, 0, 0, 0, 2, 2, 0, 0, 0, 0, 1, -1, -1, -1, 0, -1, -1, -1, -1, 2, Integer.MIN_VALUE,
            Integer.MAX_VALUE,
                0, -1, -1, 1, -128),
            "tear(0) -> 1",
            digestOf(0, 0, 0, 0, 0, 0, 1, 2, 0, 0, 0, 0, 1, -1, -1, -1, -1, -1, -1, -1, -1, 2, Integer.MIN_VALUE,
            Integer.MAX_VALUE,
                0, -1, -1, 1, -128));
        // An EVENING that is kept before anyone has eaten has none, and is not missing.
        edges.says(49, "of each who has eaten, by the EVENING's ORDER, who, what it TOOK (upper, lower)").of(
            "TABLE 'p9e1e0' -> 2", "ROW 0: 1 0", "order(0) -> 2", "keep(1) -> 0", "pot(5) -> 9", "law(3) -> 0",
            "text(0, 0) -> 0", "tear(0) -> 1",
            digestOf(2, 1, 0, 0, 0, 1, 0, 1, 5, 3, 0, 1, 1, 0, 0, 0, 0, 9, 1, -1, 0, -1, -1, -1, -1, -1, -1, -1, 0, -1,
            -1, -1),
            "begin(1) -> 2", "eat() -> 1 tells 3/1",
            digestOf(2, 1, 0, 0, 1, 1, 0, 1, 5, 3, 0, 1, 1, 0, 0, 0, 1, 2, 1, 1, 3, 1, -1, 0, -1, -1, -1, -1, -1, -1,
            -1, 0, -1, -1, -1));
        // asked(), upper(), lower() stay.
        edges.says(49,
                "(of a call that tells by asked(): what it tells, not the 1 that it answers; asked() stays)").of(
            "TABLE 'p1g7' -> 1", "eat() -> 0 tells 1/3", "ROW 0: 5 6", "at(0, 1) -> 1 asks 6",
            digestOf(1, 7, 1, 0, 1, 0, 1, 1, 1, 0, 1, 7, 0, 0, 2, 3, 0, 1, 3, -1, -1, -1, 2, 5, 6, -1, -1, -1, -1, -1,
                4, 'p', '1', 'g', '7', -1, -1, -1),
            "asked() -> 6", "upper() -> 1", "lower() -> 3");
    }

    /** The line of a digest() of these values: without a bound, and then what of it is within a long. */
    private static String digestOf(long... values) {
        BigInteger h = BigInteger.valueOf(17);
        for (long v : values) {
            h = h.multiply(BigInteger.valueOf(31)).add(BigInteger.valueOf(v));
        }
        return "digest() -> " + h.longValue();
    }
}
