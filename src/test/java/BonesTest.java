/** Promises 37 to 39: from what was left, who can have eaten when. */
public final class BonesTest {
    private static final int NOUGHT = 4;
    private static final Due due = new Due("BonesTest");

    public static void main(String[] args) {
        bones();
        last();
        ahead();
        noEaters();
        due.end();
    }

    private static void bones() {
        // The notary first: 2, then 5 of 8, left 3; the eater first: 6, then 2 of 4, left 2.
        ThirdLeft x = Due.tableOf("p10 n2 e1");
        due.tells("bones(3)", x, x.bones(3), 1, 1, 2);
        due.tells("bones(2)", x, x.bones(2), 1, 1, 2);
        due.tells("bones(4)", x, x.bones(4), 0, 0, 1);
        due.tells("bones(0)", x, x.bones(0), 0, 0, 1);
        due.tells("bones(999)", x, x.bones(999), 0, 0, 1);
        Due.fill(x, 0, 1, 0);
        x.order(0);
        x.eat();
        due.tells("bones(3), whatever the order", x, x.bones(3), 1, 1, 2);
        x.pot(1);
        due.tells("bones(1) of one", x, x.bones(1), 2, 1, 1);
        x.pot(10);
        x.law(2);
        due.tells("bones(4) by a half", x, x.bones(4), 1, 1, 2);
        due.tells("bones(3) by a half", x, x.bones(3), 1, 1, 2);
        ThirdLeft dog = Due.tableOf("p30 n2 d0 e1");
        due.tells("bones(0) with a dog", dog, dog.bones(0), 6, 1, 1);
        due.asks("last(0) with a dog", dog, dog.last(0), 7, 7);
        due.is("ahead(0, 1, 0) with a dog", dog.ahead(0, 1, 0), 2);
        ThirdLeft three = Due.tableOf("p10 n5 n1 e1");
        // The orders: 5 1 2 of 4 left 2; 5 3 1: 1; 1 5 2: 2; 1 6 (of 3: 2): 1; 6 2 (of 2) 1: 1; 6 1 2: 1.
        due.tells("bones(2) of three", three, three.bones(2), 2, 1, 3);
        due.tells("bones(1) of three", three, three.bones(1), 4, 2, 3);
        ThirdLeft full = Due.tableOf("p999 n0 n0");
        due.tells("bones(999) of 999", full, full.bones(999), 2, 1, 1);
        due.asks("last(999) of 999", full, full.last(999), 3, 3);
        due.is("ahead(0, 1, 999) of 999", full.ahead(0, 1, 999), 2);
        due.refuses("bones(-1)", x, o -> o.bones(-1), -1, 0);
        due.refuses("bones(1000)", x, o -> o.bones(1000), -1, 0);
    }

    private static void last() {
        ThirdLeft x = Due.tableOf("p10 n2 e1");
        due.asks("last(3)", x, x.last(3), 2, 1);
        due.asks("last(2)", x, x.last(2), 1, 2);
        ThirdLeft three = Due.tableOf("p10 n5 n1 e1");
        due.asks("last(2) of three", three, three.last(2), 4, 3);
        due.asks("last(1) of three", three, three.last(1), 3, 7);
        due.refuses("last(4)", x, o -> o.last(4), -3, NOUGHT);
        due.refuses("last(-1)", x, o -> o.last(-1), -1, 0);
        due.refuses("last(1000)", x, o -> o.last(1000), -1, 0);
    }

    private static void ahead() {
        ThirdLeft x = Due.tableOf("p10 n2 e1");
        due.is("ahead(0, 1, 3)", x.ahead(0, 1, 3), 1);
        due.is("ahead(1, 0, 3)", x.ahead(1, 0, 3), 0);
        due.is("ahead(0, 1, 2)", x.ahead(0, 1, 2), 0);
        due.is("ahead(1, 0, 2)", x.ahead(1, 0, 2), 1);
        ThirdLeft three = Due.tableOf("p10 n5 n1 e1");
        due.is("ahead(0, 1, 2) of three", three.ahead(0, 1, 2), 2);
        due.is("ahead(0, 2, 2) of three", three.ahead(0, 2, 2), 1);
        due.is("ahead(2, 1, 2) of three", three.ahead(2, 1, 2), 0);
        due.is("ahead(2, 0, 1) of three", three.ahead(2, 0, 1), 2);
        due.refuses("ahead(0, 1, 4)", x, o -> o.ahead(0, 1, 4), -3, NOUGHT);
        due.refuses("ahead(0, 0, 4)", x, o -> o.ahead(0, 0, 4), -1, 0);
        due.refuses("ahead(2, 0, 3)", x, o -> o.ahead(2, 0, 3), -1, 0);
        due.refuses("ahead(0, 2, 3)", x, o -> o.ahead(0, 2, 3), -1, 0);
        due.refuses("ahead(-1, 0, 3)", x, o -> o.ahead(-1, 0, 3), -1, 0);
        due.refuses("ahead(0, -1, 3)", x, o -> o.ahead(0, -1, 3), -1, 0);
        due.refuses("ahead(0, 1, -1)", x, o -> o.ahead(0, 1, -1), -1, 0);
        due.refuses("ahead(0, 1, 1000)", x, o -> o.ahead(0, 1, 1000), -1, 0);
    }

    private static void noEaters() {
        ThirdLeft x = new ThirdLeft();
        due.refuses("bones(0)", x, o -> o.bones(0), -4, 0);
        due.refuses("bones(-1)", x, o -> o.bones(-1), -1, 0);
        due.refuses("last(0)", x, o -> o.last(0), -3, NOUGHT);
        due.refuses("last(1000)", x, o -> o.last(1000), -1, 0);
        due.refuses("ahead(0, 1, 0)", x, o -> o.ahead(0, 1, 0), -1, 0);
    }
}
