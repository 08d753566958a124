/** Promises 25 to 31: whole evenings, gone through aside. */
public final class WholeEveningsTest {
    private static final Due due = new Due("WholeEveningsTest");

    public static void main(String[] args) {
        evening();
        place();
        favours();
        least();
        best();
        most();
        kind();
        noEaters();
        due.end();
    }

    private static void evening() {
        ThirdLeft x = Due.tableOf("p100 e10 g12 c7");
        x.eat();
        long digest = x.digest();
        due.tells("evening(0)", x, x.evening(0), 5, 100, 27);
        due.is("asked()", x.asked(), 2);
        due.tells("evening(1)", x, x.evening(1), 5, 4, 1);
        due.is("asked()", x.asked(), 2);
        due.is("the evening begun goes on", x.digest(), digest);
        Due.fill(x, 0, 2, 1, 0);
        x.order(0);
        x.law(2);
        x.pot(64);
        x.need(1, 4);
        due.tells("evening(0) as told now", x, x.evening(0), 6, 6, 1);
        due.is("asked()", x.asked(), 2);
        due.tells("evening(1) as told now", x, x.evening(1), 6, 6, 1);
        x.need(0, 6);
        due.tells("evening(1), just the need", x, x.evening(1), 7, 6, 1);
        due.is("asked()", x.asked(), 3);
        due.refuses("evening(2)", x, o -> o.evening(2), -1, 0);
        due.refuses("evening(-1)", x, o -> o.evening(-1), -1, 0);
    }

    private static void place() {
        ThirdLeft x = Due.tableOf("p100 e10 g12 c7");
        due.tells("place(0, 0, 0)", x, x.place(0, 0, 0), 1, 200, 3);
        due.tells("place(0, 1, 0)", x, x.place(0, 1, 0), 1, 400, 9);
        due.tells("place(0, 2, 0)", x, x.place(0, 2, 0), 1, 200, 27);
        due.tells("place(2, 0, 1)", x, x.place(2, 0, 1), 1, 83, 1);
        due.tells("place(1, 1, 1)", x, x.place(1, 1, 1), 1, 11, 1);
        Due.fill(x, 0, 2, 0, 1);
        x.order(0);
        due.tells("place(1, 0, 0) by 2 0 1", x, x.place(1, 0, 0), 1, 100, 3);
        due.tells("place(1, 1, 0) by 2 0 1", x, x.place(1, 1, 0), 1, 50, 9);
        due.asks("eater(1, 2), where it was", x, x.eater(1, 2), 1, 2);
        due.refuses("place(3, 0, 0)", x, o -> o.place(3, 0, 0), -1, 0);
        due.refuses("place(-1, 0, 0)", x, o -> o.place(-1, 0, 0), -1, 0);
        due.refuses("place(0, 3, 0)", x, o -> o.place(0, 3, 0), -1, 0);
        due.refuses("place(0, -1, 0)", x, o -> o.place(0, -1, 0), -1, 0);
        due.refuses("place(0, 0, 2)", x, o -> o.place(0, 0, 2), -1, 0);
        ThirdLeft turns = Due.tableOf("p60 l3 n0 n0 e1");
        due.tells("place(2, 1, 0) by turns", turns, turns.place(2, 1, 0), 1, 30, 1);
        due.tells("place(2, 2, 0) by turns", turns, turns.place(2, 2, 0), 1, 40, 1);
    }

    private static void favours() {
        ThirdLeft x = Due.tableOf("p100 e10 g12 c7");
        due.tells("favours(0, 0)", x, x.favours(0, 0), 0, 200, 3);
        due.tells("favours(1, 0)", x, x.favours(1, 0), 0, 100, 3);
        due.tells("favours(2, 1)", x, x.favours(2, 1), 0, 83, 1);
        due.refuses("favours(3, 0)", x, o -> o.favours(3, 0), -1, 0);
        due.refuses("favours(-1, 0)", x, o -> o.favours(-1, 0), -1, 0);
        due.refuses("favours(0, 2)", x, o -> o.favours(0, 2), -1, 0);
        ThirdLeft alike = Due.tableOf("p1 e1 e1");
        due.tells("favours(1, 1) of nothing anywhere", alike, alike.favours(1, 1), 0, 0, 1);
        ThirdLeft child = Due.tableOf("p90 e1 k2");
        due.tells("favours(1, 1), alike in both", child, child.favours(1, 1), 0, 2, 1);
    }

    private static void least() {
        ThirdLeft x = Due.tableOf("p1 e10 e10");
        due.is("least(0)", x.least(0), 45);
        due.is("least(1)", x.least(1), 43);
        x.law(2);
        due.is("least(0) by a half", x.least(0), 40);
        leastIs("p5 e0", 1, 1);
        leastIs("p5 d7", 7, 7);
        leastIs("p5 e1 e1 e74", 999, 991);
        leastIs("p5 e1 e1 e75", -9, -9);
        leastIs("p5 e99 e99 e99 e99", -9, -9);
        leastIs("p5 d1 e1", -9, -9);
        leastIs("p5 d1 e0", 1, 1);
        due.refuses("least(2)", x, o -> o.least(2), -1, 0);
        due.refuses("least(-1)", x, o -> o.least(-1), -1, 0);
    }

    private static void leastIs(String table, int byParts, int byPieces) {
        ThirdLeft x = Due.tableOf(table);
        due.is("least(0) of '" + table + "'", x.least(0), byParts);
        due.is("least(1) of '" + table + "'", x.least(1), byPieces);
    }

    private static void best() {
        ThirdLeft x = Due.tableOf("p1 e10 g12");
        x.row(4, 9);
        due.is("least(0)", x.least(0), 108);
        due.is("best(0, 4)", x.best(0, 4), 36);
        rowIs(x, 4, 1, 0);
        due.is("count(6)", x.count(6), 1);
        due.is("best(1, 5)", x.best(1, 5), 36);
        rowIs(x, 5, 1, 0);
        due.asks("eater(0, 2), the order stands", x, x.eater(0, 2), 1, 0);
        ThirdLeft alike = Due.tableOf("p1 e10 e10");
        Due.fill(alike, 0, 1, 0);
        alike.order(0);
        due.is("best(0, 0) of alike ones", alike.best(0, 0), 45);
        rowIs(alike, 0, 0, 1);
        ThirdLeft one = Due.tableOf("p1 e0 e0 e0");
        due.is("best(0, 0) of no needs", one.best(0, 0), 1);
        rowIs(one, 0, 0, 1, 2);
        ThirdLeft last = Due.tableOf("p1 e74 e1 e1");
        due.is("best(0, 0)", last.best(0, 0), 111);
        rowIs(last, 0, 0, 1, 2);
        ThirdLeft quarter = Due.tableOf("p1 l1 e11 e10");
        due.is("best(0, 0) by a quarter", quarter.best(0, 0), 54);
        rowIs(quarter, 0, 0, 1);
        ThirdLeft half = Due.tableOf("p1 l2 e10 g12");
        due.is("best(0, 0) by a half", half.best(0, 0), 48);
        rowIs(half, 0, 1, 0);
        ThirdLeft none = Due.tableOf("p5 e99 e99 e99 e99");
        Due.fill(none, 3, 8, 7);
        due.refuses("best(0, 3)", none, o -> o.best(0, 3), -9, 0);
        due.refuses("best(1, 2)", none, o -> o.best(1, 2), -9, 0);
        due.refuses("best(0, 6)", x, o -> o.best(0, 6), -1, 0);
        due.refuses("best(0, -1)", x, o -> o.best(0, -1), -1, 0);
        due.refuses("best(2, 0)", x, o -> o.best(2, 0), -1, 0);
        due.refuses("best(-1, 0)", x, o -> o.best(-1, 0), -1, 0);
        // Seven, of whom the one that needs most must be the first, and the dog the last.
        ThirdLeft seven = Due.tableOf("p1 d1 n1 n2 n3 n4 n5 e60");
        int pot = seven.best(0, 0);
        seven.order(0);
        due.is("least(0) by the best order", seven.least(0), pot);
        due.asks("eater(0, 2)", seven, seven.eater(0, 2), 1, 6);
    }

    private static void most() {
        mostIs("p20 e10 e10", 0, 1, 2);
        mostIs("p20 g3 e10", 0, 1, 2);
        mostIs("p20 g2 e10", 0, 2, 1);
        mostIs("p20 g2 e10", 1, 2, 1);
        mostIs("p19 g3 e12", 0, 1, 2);
        mostIs("p1 e9 e9", 0, 0, 2);
        mostIs("p16 l1 e12 e3", 0, 2, 1);
        mostIs("p9 e0 d1 g0", 1, 3, 6);
        mostIs("p9 e1 d1 g0", 1, 3, 3);
        ThirdLeft x = Due.tableOf("p9 e1");
        due.refuses("most(2)", x, o -> o.most(2), -1, 0);
        due.refuses("most(-1)", x, o -> o.most(-1), -1, 0);
    }

    private static void mostIs(String table, int how, int most, int orders) {
        ThirdLeft x = Due.tableOf(table);
        due.asks("most(" + how + ") of '" + table + "'", x, x.most(how), most, orders);
    }

    private static void kind() {
        kindIs("p100 e10 e10 e10", 0, 2, 3);
        kindIs("p100 e60 e15", 0, 3, 2);
        kindIs("p100 e60", 0, 0, 1);
        kindIs("p100 e70", 0, 1, 1);
        kindIs("p100 l2 e70", 0, 1, 1);
        kindIs("p3 e2 e1", 0, 3, 1);
        kindIs("p3 e2 e1", 1, 0, 1);
        kindIs("p9 e99", 0, 2, 0);
        ThirdLeft x = Due.tableOf("p100 l3 e70");
        x.kind(0);
        due.is("law(3), as it was", x.law(3), 3);
        due.refuses("kind(2)", x, o -> o.kind(2), -1, 0);
        due.refuses("kind(-1)", x, o -> o.kind(-1), -1, 0);
    }

    private static void kindIs(String table, int how, int law, int fed) {
        ThirdLeft x = Due.tableOf(table);
        due.asks("kind(" + how + ") of '" + table + "'", x, x.kind(how), law, fed);
    }

    private static void noEaters() {
        ThirdLeft x = new ThirdLeft();
        due.tells("evening(1)", x, x.evening(1), 0, 0, 1);
        x.pot(7);
        due.tells("evening(0)", x, x.evening(0), 0, 7, 1);
        due.refuses("place(0, 0, 0)", x, o -> o.place(0, 0, 0), -1, 0);
        due.refuses("favours(0, 0)", x, o -> o.favours(0, 0), -1, 0);
        due.refuses("least(0)", x, o -> o.least(0), -4, 0);
        due.refuses("least(2)", x, o -> o.least(2), -1, 0);
        due.refuses("best(0, 0)", x, o -> o.best(0, 0), -4, 0);
        due.refuses("best(0, 6)", x, o -> o.best(0, 6), -1, 0);
        due.refuses("most(1)", x, o -> o.most(1), -4, 0);
        due.refuses("most(2)", x, o -> o.most(2), -1, 0);
        due.refuses("kind(0)", x, o -> o.kind(0), -4, 0);
        due.refuses("kind(2)", x, o -> o.kind(2), -1, 0);
    }

    private static void rowIs(ThirdLeft x, int r, int... values) {
        for (int i = 0; i < values.length; i++) {
            due.asks("at(" + r + ", " + i + ")", x, x.at(r, i), 1, values[i]);
        }
        due.is("row " + r + " ends", x.at(r, values.length), -3);
    }
}
