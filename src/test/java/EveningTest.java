/** Promises 18 to 24, and what the kinds take by the laws. */
public final class EveningTest {
    private static final int NOTHING = 1;
    private static final Due due = new Due("EveningTest");

    public static void main(String[] args) {
        byParts();
        byPieces();
        kindsByParts();
        kindsByPieces();
        lawByTurns();
        refusals();
        keepAndOn();
        noEaters();
        due.end();
    }

    private static void byParts() {
        ThirdLeft x = Due.tableOf("p100 e10 g12 c7");
        due.is("begin(0)", x.begin(0), 3);
        due.tells("left()", x, x.left(), 0, 100, 1);
        due.asks("fed() of none", x, x.fed(), 0, 0);
        due.tells("eat()", x, x.eat(), 0, 200, 3);
        due.tells("eat()", x, x.eat(), 1, 100, 9);
        due.tells("left()", x, x.left(), 2, 200, 9);
        due.asks("fed()", x, x.fed(), 1, 1);
        due.tells("eat()", x, x.eat(), 2, 500, 27);
        due.tells("left()", x, x.left(), 3, 100, 27);
        due.asks("fed()", x, x.fed(), 5, 2);
        due.tells("took(1)", x, x.took(1), 1, 100, 9);
        due.tells("took(0)", x, x.took(0), 1, 200, 3);
        due.refuses("eat() of nobody", x, ThirdLeft::eat, -4, 0);
        due.is("count(4)", x.count(4), 3);
    }

    private static void byPieces() {
        ThirdLeft x = Due.tableOf("p100 e10 g12 c7");
        due.is("begin(1)", x.begin(1), 3);
        due.tells("eat()", x, x.eat(), 0, 66, 1);
        due.tells("eat()", x, x.eat(), 1, 11, 1);
        due.tells("eat()", x, x.eat(), 2, 19, 1);
        due.tells("left()", x, x.left(), 3, 4, 1);
        due.tells("took(1)", x, x.took(1), 1, 11, 1);
        due.asks("fed()", x, x.fed(), 5, 2);
        x.need(1, 11);
        due.asks("fed(), just that", x, x.fed(), 7, 3);
        due.is("begin(0)", x.begin(0), 3);
        due.tells("left()", x, x.left(), 0, 100, 1);
        due.is("took(0)", x.took(0), -4);
    }

    private static void kindsByParts() {
        first("p10l0e9", 0, 20, 3);
        first("p10l1e9", 0, 15, 2);
        first("p10l2e9", 0, 5, 1);
        first("p10l3e9", 0, 20, 3);
        first("p10l0g9", 0, 10, 3);
        first("p10l1g9", 0, 15, 4);
        first("p10l2g9", 0, 5, 2);
        first("p10l0c0", 0, 25, 3);
        first("p10l1c0", 0, 35, 4);
        first("p10l2c0", 0, 15, 2);
        first("p10l0n6", 0, 6, 1);
        first("p10l0n7", 0, 20, 3);
        first("p10l0n0", 0, 0, 1);
        first("p10l2d1", 0, 10, 1);
        first("p10l0k3", 0, 3, 1);
        first("p10l0k4", 0, 10, 3);
    }

    private static void kindsByPieces() {
        first("p10l0e9", 1, 6, 1);
        first("p10l1e9", 1, 7, 1);
        first("p11l2e9", 1, 5, 1);
        first("p11l0g9", 1, 3, 1);
        first("p11l1g9", 1, 4, 1);
        first("p11l2g9", 1, 2, 1);
        first("p10l0c0", 1, 8, 1);
        first("p11l1c0", 1, 9, 1);
        first("p11l2c0", 1, 8, 1);
        first("p1l0e0", 1, 0, 1);
        first("p1l0c0", 1, 0, 1);
        first("p2l0c0", 1, 1, 1);
        first("p10l0n6", 1, 6, 1);
        first("p10l0n7", 1, 6, 1);
        first("p10l0n5", 1, 5, 1);
        first("p10l0d1", 1, 10, 1);
        first("p11l0k2", 1, 2, 1);
        first("p11l0k4", 1, 3, 1);
    }

    private static void first(String table, int how, long upper, long lower) {
        ThirdLeft x = Due.tableOf(table);
        x.begin(how);
        due.tells("eat() by '" + table + "', " + how, x, x.eat(), 0, upper, lower);
    }

    private static void lawByTurns() {
        ThirdLeft x = Due.tableOf("p360l3e1e1e1e1");
        due.tells("eat() the first", x, x.eat(), 0, 240, 1);
        due.tells("eat() the second", x, x.eat(), 1, 60, 1);
        due.tells("eat() the third", x, x.eat(), 2, 40, 1);
        due.tells("eat() the fourth", x, x.eat(), 3, 10, 1);
        x.law(1);
        x.begin(0);
        due.tells("eat() by a quarter", x, x.eat(), 0, 270, 1);
        x.law(3);
        due.tells("eat() the second, by turns now", x, x.eat(), 1, 45, 1);
        x.law(2);
        due.tells("eat() by a half now", x, x.eat(), 2, 45, 2);
        x.law(3);
        due.tells("eat() the fourth, by turns again", x, x.eat(), 3, 45, 4);
    }

    private static void refusals() {
        ThirdLeft x = Due.tableOf("p30 e1 e2");
        x.eat();
        due.refuses("begin(2)", x, o -> o.begin(2), -1, 0);
        due.refuses("begin(-1)", x, o -> o.begin(-1), -1, 0);
        due.refuses("took(1)", x, o -> o.took(1), -4, 0);
        due.refuses("took(2)", x, o -> o.took(2), -1, 0);
        due.refuses("took(-1)", x, o -> o.took(-1), -1, 0);
        due.refuses("took(32)", x, o -> o.took(32), -1, 0);
        due.refuses("keep(3)", x, o -> o.keep(3), -1, 0);
        due.refuses("keep(-1)", x, o -> o.keep(-1), -1, 0);
        due.refuses("on(3)", x, o -> o.on(3), -1, 0);
        due.refuses("on(-1)", x, o -> o.on(-1), -1, 0);
        due.refuses("on(0)", x, o -> o.on(0), -3, NOTHING);
    }

    private static void keepAndOn() {
        ThirdLeft x = Due.tableOf("p90 e1 e1 e1");
        x.eat();
        due.is("keep(1)", x.keep(1), 1);
        due.is("count(5)", x.count(5), 1);
        x.eat();
        x.eat();
        Due.fill(x, 0, 2, 1, 0);
        x.order(0);
        x.pot(17);
        x.law(2);
        x.need(0, 61);
        x.begin(1);
        x.eat();
        x.eat();
        due.is("keep(2)", x.keep(2), 2);
        due.is("on(1)", x.on(1), 1);
        due.tells("left()", x, x.left(), 1, 30, 1);
        due.tells("took(0)", x, x.took(0), 1, 60, 1);
        due.is("took(1)", x.took(1), -4);
        due.asks("fed() by the need of now", x, x.fed(), 0, 0);
        due.tells("eat() by the order kept, the law of now", x, x.eat(), 1, 15, 1);
        due.tells("eat()", x, x.eat(), 2, 15, 2);
        due.is("pot(17), as told", x.pot(17), 17);
        due.asks("eater(0, 2), as told", x, x.eater(0, 2), 1, 2);
        due.is("on(1) again", x.on(1), 1);
        due.tells("left()", x, x.left(), 1, 30, 1);
        due.is("on(2)", x.on(2), 2);
        due.tells("took(2) by pieces", x, x.took(2), 1, 8, 1);
        due.tells("took(1) by pieces", x, x.took(1), 1, 4, 1);
        due.tells("eat() by pieces", x, x.eat(), 0, 2, 1);
        x.on(1);
        due.tells("took(0) by parts again", x, x.took(0), 1, 60, 1);
        x.on(2);
        x.eat();
        due.is("keep(2) over it", x.keep(2), 3);
        due.is("count(5)", x.count(5), 2);
        x.begin(0);
        due.is("on(2)", x.on(2), 3);
        due.is("eat()", x.eat(), -4);
        due.is("on(0)", x.on(0), -3);
    }

    private static void noEaters() {
        ThirdLeft x = new ThirdLeft();
        due.refuses("eat()", x, ThirdLeft::eat, -4, 0);
        due.refuses("took(0)", x, o -> o.took(0), -1, 0);
        due.refuses("keep(0)", x, o -> o.keep(0), -4, 0);
        due.refuses("keep(3)", x, o -> o.keep(3), -1, 0);
        due.is("begin(1)", x.begin(1), 0);
        x.pot(8);
        due.is("begin(1)", x.begin(1), 0);
        due.tells("left()", x, x.left(), 0, 8, 1);
        due.asks("fed()", x, x.fed(), 0, 0);
    }
}
