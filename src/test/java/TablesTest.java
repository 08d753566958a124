/** Promises 8 to 17: texts, faults, tables, eaters, marks, the law, the pot, needs, the order. */
public final class TablesTest {
    private static final int NOTHING = 1, BEYOND = 2, UNLIKE = 3, SIZE = 5;
    private static final Due due = new Due("TablesTest");

    public static void main(String[] args) {
        texts();
        faults();
        tables();
        tableGoesAnew();
        eaters();
        marks();
        markOfChild();
        lawAndPot();
        needs();
        orders();
        due.end();
    }

    private static void texts() {
        ThirdLeft x = new ThirdLeft();
        due.is("text(3, 60)", x.text(3, 60), 60);
        due.is("text(0, 0)", x.text(0, 0), 0);
        due.is("count(7)", x.count(7), 2);
        due.is("put(3, 59, 200)", x.put(3, 59, 200), 1032);
        due.is("put(3, 59, -129)", x.put(3, 59, -129), 1000 - 56);
        due.is("put(3, 59, 256)", x.put(3, 59, 256), 1127);
        due.is("put(3, 59, 1)", x.put(3, 59, 1), 1000);
        due.is("text(3, 60) anew", x.text(3, 60), 60);
        due.is("put(3, 59, 1)", x.put(3, 59, 1), 1032);
        due.refuses("text(4, 1)", x, o -> o.text(4, 1), -1, 0);
        due.refuses("text(-1, 1)", x, o -> o.text(-1, 1), -1, 0);
        due.refuses("text(0, 61)", x, o -> o.text(0, 61), -1, 0);
        due.refuses("text(4, -1)", x, o -> o.text(4, -1), -1, 0);
        due.refuses("text(0, -1)", x, o -> o.text(0, -1), -3, SIZE);
        due.refuses("put(4, 0, 1)", x, o -> o.put(4, 0, 1), -1, 0);
        due.refuses("put(1, 0, 1)", x, o -> o.put(1, 0, 1), -3, NOTHING);
        due.refuses("put(0, 0, 1)", x, o -> o.put(0, 0, 1), -3, BEYOND);
        due.refuses("put(3, 60, 1)", x, o -> o.put(3, 60, 1), -3, BEYOND);
        due.refuses("put(3, -1, 1)", x, o -> o.put(3, -1, 1), -3, BEYOND);
    }

    private static void faults() {
        faultIs("", 0);
        faultIs("   ", 3);
        faultIs("e5", 0);
        faultIs(" l0", 1);
        faultIs("p", 1);
        faultIs("p 5", 1);
        faultIs("px", 1);
        faultIs("p0", 2);
        faultIs("p0e1", 2);
        faultIs("p00 ", 3);
        faultIs("p000", 4);
        faultIs("p0000", 4);
        faultIs("p1000", 4);
        faultIs("p007", -9);
        faultIs("p999", -9);
        faultIs("P5", 0);
        faultIs("p5p5", 2);
        faultIs("p5l", 3);
        faultIs("p5l4", 3);
        faultIs("p5l 1", 3);
        faultIs("p5l12", 4);
        faultIs("p5l1l1", 4);
        faultIs("p5e1l1", 4);
        faultIs("p5e", 3);
        faultIs("p5e ", 3);
        faultIs("p5ex", 3);
        faultIs("p5e123", 5);
        faultIs("p5a1", 2);
        faultIs("p5e1g2c3n4d5k6e7", -9);
        faultIs("p5e1g2c3n4d5k6e7e8", 16);
        faultIs("p5e1g2c3n4d5k6e7 x", 17);
        faultIs("  p5  l3  e1 g99k0  ", -9);
        faultIs("p5\0", 2);
        ThirdLeft x = new ThirdLeft();
        due.refuses("fault(4)", x, o -> o.fault(4), -1, 0);
        due.refuses("fault(-1)", x, o -> o.fault(-1), -1, 0);
        due.refuses("fault(2)", x, o -> o.fault(2), -3, NOTHING);
        // What stood in a longer text ahead is not read.
        Due.write(x, 2, "p5e1");
        Due.write(x, 2, "p5e");
        due.is("fault of the shorter text", x.fault(2), 3);
        Due.write(x, 2, "p5e1");
        x.put(2, 3, -79);
        due.is("fault of a byte below 0", x.fault(2), 3);
    }

    private static void faultIs(String text, int fault) {
        ThirdLeft x = new ThirdLeft();
        Due.write(x, 1, text);
        due.is("fault of '" + text + "'", x.fault(1), fault);
        if (fault >= 0) {
            due.refuses("table of '" + text + "'", x, o -> o.table(1), -4, 0);
        }
    }

    private static void tables() {
        ThirdLeft x = Due.tableOf(" p81l2  e20g5 c6 n3k2 d1");
        int[] kinds = {0, 1, 2, 3, 5, 4};
        int[] needs = {20, 5, 6, 3, 2, 1};
        due.is("count(0)", x.count(0), 6);
        for (int k = 0; k < 6; k++) {
            due.asks("eater(" + k + ", 0)", x, x.eater(k, 0), 1, kinds[k]);
            due.asks("eater(" + k + ", 1)", x, x.eater(k, 1), 1, needs[k]);
            due.asks("eater(" + k + ", 2)", x, x.eater(k, 2), 1, k);
        }
        due.is("law(0)", x.law(0), 2);
        due.is("pot(1)", x.pot(1), 81);
        due.tells("left()", x, x.left(), 0, 81, 1);
        due.refuses("table(4)", x, o -> o.table(4), -1, 0);
        due.refuses("table(-1)", x, o -> o.table(-1), -1, 0);
        due.refuses("table(1)", x, o -> o.table(1), -3, NOTHING);
    }

    private static void tableGoesAnew() {
        ThirdLeft x = Due.tableOf("p50l1e9e9");
        Due.fill(x, 0, 1, 0);
        x.order(0);
        x.begin(1);
        x.eat();
        x.keep(0);
        x.keep(2);
        Due.write(x, 0, "p5");
        x.put(0, 1, 'x');
        due.refuses("table(0) at fault", x, o -> o.table(0), -4, 0);
        Due.write(x, 1, "p70c8g8e8");
        due.is("table(1)", x.table(1), 3);
        due.is("count(5)", x.count(5), 0);
        due.is("on(0)", x.on(0), -3);
        due.is("law(0)", x.law(0), 0);
        due.asks("eater(0, 2)", x, x.eater(0, 2), 1, 0);
        due.tells("left()", x, x.left(), 0, 70, 1);
        due.tells("eat()", x, x.eat(), 0, 175, 3);
        Due.write(x, 1, "p70");
        due.is("table(1) without eaters", x.table(1), 0);
        due.is("count(0)", x.count(0), 0);
        due.is("eat()", x.eat(), -4);
    }

    private static void eaters() {
        ThirdLeft x = Due.tableOf("p9e1g2");
        Due.fill(x, 0, 1, 0);
        x.order(0);
        due.asks("eater(0, 2)", x, x.eater(0, 2), 1, 1);
        due.asks("eater(1, 2)", x, x.eater(1, 2), 1, 0);
        due.refuses("eater(2, 0)", x, o -> o.eater(2, 0), -1, 0);
        due.refuses("eater(-1, 0)", x, o -> o.eater(-1, 0), -1, 0);
        due.refuses("eater(0, 3)", x, o -> o.eater(0, 3), -1, 0);
        due.refuses("eater(0, -1)", x, o -> o.eater(0, -1), -1, 0);
    }

    private static void marks() {
        // By pieces of 40: e 26 of 40, n 5 of 14, d 9.
        ThirdLeft x = Due.tableOf("p40 d50 e9 g2 c3 n5 k4");
        Due.fill(x, 0, 1, 4, 0, 2, 5, 3);
        x.order(0);
        due.is("mark(2, 1)", x.mark(2, 1), 3);
        due.is("mark(5, 1)", x.mark(5, 1), 4);
        due.is("mark(3, 2)", x.mark(3, 2), 0);
        due.is("mark(4, 3)", x.mark(4, 3), 21);
        x.need(4, 99);
        due.is("mark(4, 3) below 0", x.mark(4, 3), -73);
        due.is("finding()", x.finding(), 0);
        x.need(4, 29);
        due.is("mark(4, 3) is -3", x.mark(4, 3), -3);
        due.is("finding()", x.finding(), 0);
        x.law(3);
        due.is("mark(4, 3) by the first one's law", x.mark(4, 3), -3);
        x.law(2);
        due.is("mark(4, 3) by a half", x.mark(4, 3), -9);
        x.law(0);
        x.need(4, 5);
        // With the dog last: e 26 (fed), n 5 of 14 (fed), g of 9: 3 (fed), k of 6: 2, c of 4: 3 (fed), d 1.
        due.is("mark(0, 4)", x.mark(0, 4), 4);
        x.need(0, 1);
        due.is("mark(0, 4), the dog too", x.mark(0, 4), 5);
        x.begin(1);
        x.eat();
        due.is("mark(2, 1) by the order as told", x.mark(2, 1), 3);
        for (int kind = 1; kind <= 5; kind++) {
            int k = kind;
            due.refuses("mark(1, " + kind + ")", x, o -> o.mark(1, k), -3, UNLIKE);
        }
        due.refuses("mark(2, 5)", x, o -> o.mark(2, 5), -3, UNLIKE);
        due.refuses("mark(4, 2)", x, o -> o.mark(4, 2), -3, UNLIKE);
        due.refuses("mark(2, 0)", x, o -> o.mark(2, 0), -1, 0);
        due.refuses("mark(2, 6)", x, o -> o.mark(2, 6), -1, 0);
        due.refuses("mark(2, -1)", x, o -> o.mark(2, -1), -1, 0);
        due.refuses("mark(6, 1)", x, o -> o.mark(6, 1), -1, 0);
        due.refuses("mark(-1, 1)", x, o -> o.mark(-1, 1), -1, 0);
    }

    private static void markOfChild() {
        ThirdLeft x = Due.tableOf("p30 k10 k9 k3");
        due.is("mark(0, 5) not yet", x.mark(0, 5), 0);
        x.eat();
        due.is("mark(0, 5)", x.mark(0, 5), 1);
        x.need(0, 9);
        due.is("mark(0, 5), more than that", x.mark(0, 5), 0);
        x.eat();
        due.is("mark(1, 5), less than that", x.mark(1, 5), 0);
        x.need(2, 0);
        due.is("mark(2, 5), nothing, not yet", x.mark(2, 5), 0);
        x.eat();
        due.is("mark(2, 5), nothing", x.mark(2, 5), 1);
    }

    private static void lawAndPot() {
        ThirdLeft x = Due.tableOf("p30 e1");
        due.is("law(3)", x.law(3), 0);
        due.is("law(1)", x.law(1), 3);
        due.refuses("law(4)", x, o -> o.law(4), -1, 0);
        due.refuses("law(-1)", x, o -> o.law(-1), -1, 0);
        due.is("pot(999)", x.pot(999), 30);
        due.tells("left() of the evening begun", x, x.left(), 0, 30, 1);
        due.is("pot(1)", x.pot(1), 999);
        due.refuses("pot(0)", x, o -> o.pot(0), -1, 0);
        due.refuses("pot(1000)", x, o -> o.pot(1000), -1, 0);
        due.refuses("pot(-5)", x, o -> o.pot(-5), -1, 0);
        x.begin(1);
        due.tells("left()", x, x.left(), 0, 1, 1);
    }

    private static void needs() {
        ThirdLeft x = Due.tableOf("p30 e15 n2");
        due.is("need(0, 99)", x.need(0, 99), 15);
        due.is("need(0, 0)", x.need(0, 0), 99);
        due.is("count(1)", x.count(1), 2);
        x.eat();
        x.need(1, 4);
        due.tells("eat() by the need of now", x, x.eat(), 1, 4, 1);
        due.asks("fed()", x, x.fed(), 3, 2);
        x.need(1, 5);
        due.asks("fed() by the need of now", x, x.fed(), 1, 1);
        due.refuses("need(0, 100)", x, o -> o.need(0, 100), -1, 0);
        due.refuses("need(0, -1)", x, o -> o.need(0, -1), -1, 0);
        due.refuses("need(2, 1)", x, o -> o.need(2, 1), -1, 0);
        due.refuses("need(-1, 1)", x, o -> o.need(-1, 1), -1, 0);
    }

    private static void orders() {
        ThirdLeft x = Due.tableOf("p81 e1 e1 e1");
        Due.fill(x, 0, 2, 0, 1);
        due.is("order(0)", x.order(0), 3);
        due.is("eat() by the order of the evening begun", x.eat(), 0);
        due.is("begin(0)", x.begin(0), 3);
        due.is("eat()", x.eat(), 2);
        due.is("eat()", x.eat(), 0);
        due.is("eat()", x.eat(), 1);
        x.lay(0, 0, 1);
        due.refuses("order(0), one twice", x, o -> o.order(0), -3, UNLIKE);
        x.lay(0, 0, 3);
        due.refuses("order(0), none of them", x, o -> o.order(0), -3, UNLIKE);
        x.lay(0, 0, -1);
        due.refuses("order(0), -1", x, o -> o.order(0), -3, UNLIKE);
        x.lay(0, 0, 34);
        due.refuses("order(0), 34", x, o -> o.order(0), -3, UNLIKE);
        Due.fill(x, 1, 5, 5);
        due.refuses("order(1), too few", x, o -> o.order(1), -3, SIZE);
        Due.fill(x, 1, 0, 1, 2, 3);
        due.refuses("order(1), too many", x, o -> o.order(1), -3, SIZE);
        due.refuses("order(2)", x, o -> o.order(2), -3, NOTHING);
        due.refuses("order(6)", x, o -> o.order(6), -1, 0);
        due.refuses("order(-1)", x, o -> o.order(-1), -1, 0);
        ThirdLeft none = new ThirdLeft();
        none.row(0, 0);
        due.is("order(0) of none", none.order(0), 0);
    }
}
