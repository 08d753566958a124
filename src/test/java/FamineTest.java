/** Promises 40 to 42: famine, the kindest law, kitchens by lots. */
public final class FamineTest {
    private static final Due due = new Due("FamineTest");

    public static void main(String[] args) {
        famine();
        kindest();
        kitchens();
        noEaters();
        due.end();
    }

    private static void famine() {
        ThirdLeft x = Due.tableOf("p1 e10 e10");
        due.is("famine(1, 0)", x.famine(1, 0), 45);
        due.is("famine(1, 1)", x.famine(1, 1), 43);
        due.is("famine(2, 0)", x.famine(2, 0), 15);
        due.is("famine(7, 1)", x.famine(7, 1), 15);
        ThirdLeft four = Due.tableOf("p1 e99 e99 e99 e99");
        due.is("famine(2, 0) of four", four.famine(2, 0), -9);
        due.is("famine(3, 0) of four", four.famine(3, 0), 446);
        due.is("famine(4, 0) of four", four.famine(4, 0), 149);
        due.is("famine(4, 1) of four", four.famine(4, 1), 149);
        four.law(1);
        due.is("famine(4, 0) by a quarter", four.famine(4, 0), 132);
        // In two evenings the third one never eats first; by the order turned it does.
        ThirdLeft three = Due.tableOf("p1 e9 e1 e9");
        due.is("famine(2, 0) of three", three.famine(2, 0), 41);
        Due.fill(three, 0, 0, 2, 1);
        three.order(0);
        due.is("famine(2, 0) by 0 2 1", three.famine(2, 0), 14);
        due.is("famine(1, 0) of none in need", Due.tableOf("p1 d0").famine(1, 0), 1);
        due.refuses("famine(0, 0)", x, o -> o.famine(0, 0), -1, 0);
        due.refuses("famine(8, 0)", x, o -> o.famine(8, 0), -1, 0);
        due.refuses("famine(1, 2)", x, o -> o.famine(1, 2), -1, 0);
        due.refuses("famine(1, -1)", x, o -> o.famine(1, -1), -1, 0);
    }

    private static void kindest() {
        ThirdLeft x = Due.tableOf("p1 l3 e10 e10");
        due.asks("kindest(1, 0)", x, x.kindest(1, 0), 2, 40);
        due.asks("kindest(2, 0)", x, x.kindest(2, 0), 1, 14);
        due.is("law(3) as it was", x.law(3), 3);
        ThirdLeft alike = Due.tableOf("p9 l2 d5");
        due.asks("kindest(1, 0) of alike ones", alike, alike.kindest(1, 0), 0, 5);
        due.asks("kindest(7, 1)", x, x.kindest(7, 1), 1, 14);
        ThirdLeft turns = Due.tableOf("p1 e60 e1 e10");
        due.asks("kindest(1, 0), by turns", turns, turns.kindest(1, 0), 3, 90);
        ThirdLeft four = Due.tableOf("p1 e99 e99 e99 e99");
        due.asks("kindest(4, 0) of four", four, four.kindest(4, 0), 1, 132);
        ThirdLeft five = Due.tableOf("p1 e99 e99 e99 e99 e99");
        due.refuses("kindest(1, 0) of none", five, o -> o.kindest(1, 0), -9, 0);
        due.refuses("kindest(0, 0)", x, o -> o.kindest(0, 0), -1, 0);
        due.refuses("kindest(8, 0)", x, o -> o.kindest(8, 0), -1, 0);
        due.refuses("kindest(1, 2)", x, o -> o.kindest(1, 2), -1, 0);
    }

    private static void kitchens() {
        // The numbers by the seed 1: 48271, 182605794, 1291394886, 1914720637, 2078669041, 407355683.
        ThirdLeft two = Due.tableOf("p90 e50 e1");
        lotsAre(two, 1, 1, 0, 1, 1);
        lotsAre(two, 2, 1, 1, 1, 2);
        lotsAre(two, 3, 1, 1, 1, 3);
        lotsAre(two, 4, 1, 1, 2, 4);
        lotsAre(two, 1, 48271, 1, 0, 1);
        ThirdLeft three = Due.tableOf("p27 e18 e0 e0");
        lotsAre(three, 1, 1, 1, 0, 1, 1);
        lotsAre(three, 2, 1, 1, 0, 2, 2);
        lotsAre(three, 3, 1, 1, 1, 3, 3);
        Due.fill(three, 0, 2, 1, 0);
        three.order(0);
        // The places change as they did ahead: 0 2 1, then 0 1 2.
        lotsAre(three, 1, 1, 0, 1, 1, 1);
        lotsAre(three, 2, 1, 0, 2, 2, 2);
        ThirdLeft cut = Due.tableOf("p100 e67 e0");
        due.is("kitchens(3, 1, 1, 5) by pieces", cut.kitchens(3, 1, 1, 5), 1);
        due.asks("at(5, 0) by pieces", cut, cut.at(5, 0), 1, 0);
        lotsAre(Due.tableOf("p90 l2 e22 e22"), 4, 1, 0, 4, 4);
        due.is("kitchens(1, 2147483646, 0, 5)", cut.kitchens(1, 2147483646, 0, 5), 1);
        due.is("kitchens(40, 2147483646, 0, 5)", cut.kitchens(40, 2147483646, 0, 5), 1);
        due.asks("at(5, 1)", cut, cut.at(5, 1), 1, 40);
        due.asks("at(5, 2) is none", cut, cut.at(5, 2), -3, 40);
        due.refuses("kitchens(0, 1, 0, 0)", two, o -> o.kitchens(0, 1, 0, 0), -1, 0);
        due.refuses("kitchens(41, 1, 0, 0)", two, o -> o.kitchens(41, 1, 0, 0), -1, 0);
        due.refuses("kitchens(1, 0, 0, 0)", two, o -> o.kitchens(1, 0, 0, 0), -1, 0);
        due.refuses("kitchens(1, MAX, 0, 0)", two, o -> o.kitchens(1, Integer.MAX_VALUE, 0, 0), -1, 0);
        due.refuses("kitchens(1, -1, 0, 0)", two, o -> o.kitchens(1, -1, 0, 0), -1, 0);
        due.refuses("kitchens(1, 1, 2, 0)", two, o -> o.kitchens(1, 1, 2, 0), -1, 0);
        due.refuses("kitchens(1, 1, 0, 6)", two, o -> o.kitchens(1, 1, 0, 6), -1, 0);
        due.refuses("kitchens(1, 1, 0, -1)", two, o -> o.kitchens(1, 1, 0, -1), -1, 0);
    }

    private static void lotsAre(ThirdLeft x, int n, int seed, int often, int... fed) {
        x.row(2, 9);
        String call = "kitchens(" + n + ", " + seed + ", 0, 2)";
        due.is(call, x.kitchens(n, seed, 0, 2), often);
        for (int k = 0; k < fed.length; k++) {
            due.asks(call + ", at(2, " + k + ")", x, x.at(2, k), 1, fed[k]);
        }
        due.is(call + ", the row ends", x.at(2, fed.length), -3);
    }

    private static void noEaters() {
        ThirdLeft x = new ThirdLeft();
        due.refuses("famine(1, 0)", x, o -> o.famine(1, 0), -4, 0);
        due.refuses("famine(0, 0)", x, o -> o.famine(0, 0), -1, 0);
        due.refuses("kindest(1, 0)", x, o -> o.kindest(1, 0), -4, 0);
        due.refuses("kindest(1, 2)", x, o -> o.kindest(1, 2), -1, 0);
        due.refuses("kitchens(1, 1, 0, 0)", x, o -> o.kitchens(1, 1, 0, 0), -4, 0);
        due.refuses("kitchens(1, 1, 0, 6)", x, o -> o.kitchens(1, 1, 0, 6), -1, 0);
    }
}
