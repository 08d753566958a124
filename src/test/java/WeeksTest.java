/** Promises 32 to 36: weeks, several pots, cheats. */
public final class WeeksTest {
    private static final Due due = new Due("WeeksTest");

    public static void main(String[] args) {
        week();
        even();
        two();
        scales();
        cheats();
        noEaters();
        due.end();
    }

    private static void week() {
        ThirdLeft x = Due.tableOf("p100 e1 e1");
        due.tells("week(0, 1, 0)", x, x.week(0, 1, 0), 1, 200, 3);
        due.tells("week(0, 2, 0)", x, x.week(0, 2, 0), 1, 800, 9);
        due.tells("week(1, 1, 0)", x, x.week(1, 1, 0), 1, 200, 9);
        due.tells("week(0, 2, 1)", x, x.week(0, 2, 1), 1, 88, 1);
        due.tells("week(0, 7, 1)", x, x.week(0, 7, 1), 1, 330, 1);
        Due.fill(x, 0, 1, 0);
        x.order(0);
        due.tells("week(0, 1, 0) by 1 0", x, x.week(0, 1, 0), 1, 200, 9);
        due.tells("week(0, 7, 1) by 1 0", x, x.week(0, 7, 1), 1, 286, 1);
        // Turned by 1 the order begins with its place 1 and goes on round about.
        ThirdLeft three = Due.tableOf("p27 e1 e1 e1");
        due.tells("week(0, 2, 0) of three", three, three.week(0, 2, 0), 1, 20, 1);
        due.tells("week(1, 2, 0) of three", three, three.week(1, 2, 0), 1, 24, 1);
        due.tells("week(2, 2, 0) of three", three, three.week(2, 2, 0), 1, 8, 1);
        ThirdLeft quarter = Due.tableOf("p100 l1 e1 e1");
        due.tells("week(0, 2, 0) by a quarter", quarter, quarter.week(0, 2, 0), 1, 375, 4);
        due.refuses("week(2, 1, 0)", x, o -> o.week(2, 1, 0), -1, 0);
        due.refuses("week(-1, 1, 0)", x, o -> o.week(-1, 1, 0), -1, 0);
        due.refuses("week(0, 0, 0)", x, o -> o.week(0, 0, 0), -1, 0);
        due.refuses("week(0, 8, 0)", x, o -> o.week(0, 8, 0), -1, 0);
        due.refuses("week(0, 1, 2)", x, o -> o.week(0, 1, 2), -1, 0);
    }

    private static void even() {
        ThirdLeft x = Due.tableOf("p90 e50 e50");
        due.asks("even(1, 0)", x, x.even(1, 0), 0, 0);
        due.asks("even(2, 0)", x, x.even(2, 0), 1, 1);
        due.asks("even(3, 1)", x, x.even(3, 1), 1, 1);
        due.asks("even(4, 0)", x, x.even(4, 0), 2, 8);
        x.need(0, 20);
        due.asks("even(1, 0), one can wait", x, x.even(1, 0), 1, 1);
        due.asks("even(4, 0), one can wait", x, x.even(4, 0), 4, 400);
        x.need(1, 1);
        due.asks("even(4, 1), both can", x, x.even(4, 1), 4, 0);
        ThirdLeft three = Due.tableOf("p90 e50 e50 e50");
        due.asks("even(3, 0) of three", three, three.even(3, 0), 1, 9);
        due.asks("even(4, 0) of three", three, three.even(4, 0), 1, 9);
        due.asks("even(2, 0) of three", three, three.even(2, 0), 0, 0);
        ThirdLeft seven = Due.tableOf("p99 d99 n1 n1 n1 n1 n1 n1");
        due.asks("even(1, 0) of seven", seven, seven.even(1, 0), 0, 0);
        ThirdLeft dog = Due.tableOf("p999 d1 n1 n1 n1 n1 n1 n1");
        due.asks("even(1, 0), the dog last", dog, dog.even(1, 0), 1, 1);
        Due.fill(dog, 0, 1, 2, 3, 4, 5, 0, 6);
        dog.order(0);
        due.asks("even(4, 1), the dog last", dog, dog.even(4, 1), 4, 6 * (343 + 49 + 7 + 1));
        ThirdLeft half = Due.tableOf("p90 l2 e22 e22");
        due.asks("even(1, 0) by a half", half, half.even(1, 0), 1, 0);
        due.refuses("even(0, 0)", x, o -> o.even(0, 0), -1, 0);
        due.refuses("even(5, 0)", x, o -> o.even(5, 0), -1, 0);
        due.refuses("even(1, 2)", x, o -> o.even(1, 2), -1, 0);
        due.refuses("even(1, -1)", x, o -> o.even(1, -1), -1, 0);
    }

    private static void two() {
        ThirdLeft x = Due.tableOf("p90 e80 e81");
        due.asks("two(0)", x, x.two(0), 1, 1);
        due.asks("two(1)", x, x.two(1), 1, 1);
        x.need(1, 80);
        due.asks("two(0)", x, x.two(0), 3, 2);
        x.need(0, 99);
        x.need(1, 99);
        due.asks("two(0)", x, x.two(0), 0, 0);
        ThirdLeft three = Due.tableOf("p27 e20 e13 e20");
        due.asks("two(0) of three", three, three.two(0), 5, 2);
        Due.fill(three, 0, 1, 0, 2);
        three.order(0);
        due.asks("two(0) by 1 0 2", three, three.two(0), 6, 2);
        ThirdLeft cut = Due.tableOf("p10 e8 e9");
        due.asks("two(0) of ten", cut, cut.two(0), 1, 1);
        cut.need(0, 9);
        due.asks("two(0) of ten, 9 wanted", cut, cut.two(0), 0, 0);
        ThirdLeft half = Due.tableOf("p90 l2 e67 e68");
        due.asks("two(0) by a half", half, half.two(0), 1, 1);
        due.asks("two(1) by a half", half, half.two(1), 1, 1);
        due.refuses("two(2)", x, o -> o.two(2), -1, 0);
        due.refuses("two(-1)", x, o -> o.two(-1), -1, 0);
    }

    private static void scales() {
        scalesAre("p18 e1", 0, 0);
        scalesAre("p6 c1", 1, 1);
        scalesAre("p5 c1", 0, 1);
        scalesAre("p8 l1 c1", 1, 1);
        scalesAre("p7 l1 c1", 0, 1);
        scalesAre("p4 l2 c1", 1, 1);
        scalesAre("p3 l2 c1", 0, 1);
        scalesAre("p12 c1 e1", 0, 1);
        scalesAre("p18 c1 e1", 1, 1);
        scalesAre("p18 e1 c1", 2, 1);
        scalesAre("p36 c1 c1", 3, 2);
        scalesAre("p35 c1 c1", 0, 2);
        scalesAre("p99 c1 d1", 0, 1);
        ThirdLeft x = Due.tableOf("p36 c1 c1");
        x.begin(1);
        x.scales();
        due.asks("eater(0, 0) as it was", x, x.eater(0, 0), 1, 2);
        due.asks("eater(1, 0) as it was", x, x.eater(1, 0), 1, 2);
        // By the other order a notary has its need ahead of the cheat, and less is left.
        ThirdLeft turned = Due.tableOf("p9 c1 n4");
        due.asks("scales(), the cheat first", turned, turned.scales(), 0, 1);
        turned.pot(10);
        Due.fill(turned, 0, 1, 0);
        turned.order(0);
        due.asks("scales(), the cheat last", turned, turned.scales(), 1, 1);
    }

    private static void scalesAre(String table, int shown, int cheats) {
        ThirdLeft x = Due.tableOf(table);
        due.asks("scales() of '" + table + "'", x, x.scales(), shown, cheats);
    }

    private static void cheats() {
        cheatsTake("p36 c1 c1", 3, 1);
        cheatsTake("p10 c1", 5, 3);
        cheatsTake("p10 e1", 0, 1);
        cheatsTake("p10 l1 c1", 5, 4);
        cheatsTake("p10 l2 c1", 5, 2);
        cheatsTake("p54 e1 c1 g1", 3, 1);
        ThirdLeft x = Due.tableOf("p36 c1 e1 c1");
        // As cheats 30, 4, 5/3; as eaters 24, 8, 8/3.
        due.tells("cheats() with one between", x, x.cheats(), 1, 5, 1);
        x.begin(1);
        Due.fill(x, 0, 1, 0, 2);
        x.order(0);
        // As cheats 10, 5/3 of 12; as eaters 8, 8/3.
        due.tells("cheats() by 1 0 2", x, x.cheats(), 1, 1, 1);
        due.asks("eater(0, 0) as it was", x, x.eater(0, 0), 1, 2);
    }

    private static void cheatsTake(String table, long upper, long lower) {
        ThirdLeft x = Due.tableOf(table);
        due.tells("cheats() of '" + table + "'", x, x.cheats(), 1, upper, lower);
    }

    private static void noEaters() {
        ThirdLeft x = new ThirdLeft();
        x.pot(9);
        due.refuses("week(0, 1, 0)", x, o -> o.week(0, 1, 0), -1, 0);
        due.refuses("even(1, 0)", x, o -> o.even(1, 0), -4, 0);
        due.refuses("even(0, 0)", x, o -> o.even(0, 0), -1, 0);
        due.asks("two(0)", x, x.two(0), 0, 0);
        due.asks("scales()", x, x.scales(), 0, 0);
        due.tells("cheats()", x, x.cheats(), 1, 0, 1);
    }
}
