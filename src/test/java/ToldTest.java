/** Promises 43 to 49, and the constants. */
public final class ToldTest {
    private static final Due due = new Due("ToldTest");

    public static void main(String[] args) {
        constants();
        asked();
        fractions();
        counts();
        findings();
        digestOfNew();
        digestOfAll();
        due.end();
    }

    private static void constants() {
        due.is("BAD", ThirdLeft.BAD, -1);
        due.is("FULL", ThirdLeft.FULL, -2);
        due.is("FINDING", ThirdLeft.FINDING, -3);
        due.is("STATE", ThirdLeft.STATE, -4);
        due.is("SPENT", ThirdLeft.SPENT, -6);
        due.is("NONE", ThirdLeft.NONE, -9);
    }

    /** Each call that tells by asked() does, and no other one touches it. */
    private static void asked() {
        ThirdLeft x = Due.tableOf("p100 e10 c7 k3");
        Due.fill(x, 0, 50, 60);
        x.at(0, 0);
        due.is("asked() by at()", x.asked(), 50);
        x.lay(0, 1, 61);
        due.is("asked() by lay()", x.asked(), 60);
        x.mean(0);
        due.is("asked() by mean()", x.asked(), 55);
        x.eater(1, 1);
        due.is("asked() by eater()", x.asked(), 7);
        x.lay(0, 0, 9);
        x.at(0, 0);
        x.row(1, 3);
        x.tear(1);
        x.row(1, 2);
        x.copy(0, 0, 1, 0, 1);
        x.text(1, 4);
        x.put(1, 1, 4);
        x.fault(1);
        x.mark(2, 5);
        x.mark(1, 2);
        x.law(1);
        x.pot(90);
        x.need(0, 5);
        x.begin(1);
        x.eat();
        x.took(0);
        x.left();
        x.keep(0);
        x.on(0);
        x.place(0, 1, 1);
        x.favours(0, 1);
        x.least(1);
        x.best(1, 2);
        x.week(0, 3, 1);
        x.cheats();
        x.bones(3);
        x.ahead(0, 1, 0);
        x.famine(2, 0);
        x.kitchens(3, 3, 1, 3);
        x.count(1);
        x.finding();
        x.findings(4);
        x.digest();
        x.order(0);
        x.table(3);
        x.table(0);
        due.is("asked() by what tells nothing", x.asked(), 9);
        x.eat();
        x.fed();
        due.is("asked() by fed()", x.asked(), 1);
    }

    private static void fractions() {
        ThirdLeft x = Due.tableOf("p100 e10 c7 k3");
        x.evening(0);
        due.is("upper()", x.upper(), 100);
        due.is("lower()", x.lower(), 27);
        x.bones(999);
        due.is("upper() of 0", x.upper(), 0);
        due.is("lower() of 0", x.lower(), 1);
        x.eat();
        long[] told = {x.upper(), x.lower()};
        due.is("upper() by eat()", told[0], 200);
        due.is("lower() by eat()", told[1], 3);
        Due.fill(x, 0, 5, 6);
        x.mean(0);
        x.fed();
        x.least(0);
        x.best(0, 1);
        x.most(0);
        x.kind(0);
        x.even(2, 0);
        x.two(0);
        x.scales();
        x.last(5);
        x.ahead(0, 1, 3);
        x.famine(1, 1);
        x.kindest(1, 1);
        x.kitchens(5, 5, 0, 2);
        x.mark(1, 2);
        x.keep(0);
        x.begin(0);
        x.on(0);
        x.digest();
        x.table(0);
        due.is("upper() by what tells none", x.upper(), 200);
        due.is("lower() by what tells none", x.lower(), 3);
    }

    private static void counts() {
        ThirdLeft x = Due.tableOf("p100 e10 c7 k3 g4 c8 n20 k9");
        x.row(0, 1);
        x.row(5, 1);
        x.text(3, 2);
        x.eat();
        x.eat();
        x.keep(0);
        x.keep(2);
        x.keep(2);
        x.eat();
        int[] want = {7, 61, 3, 2, 3, 2, 2, 2};
        for (int what = 0; what <= 7; what++) {
            due.is("count(" + what + ")", x.count(what), want[what]);
        }
        x.tear(5);
        due.is("count(6)", x.count(6), 1);
        x.need(0, 11);
        due.is("count(1)", x.count(1), 62);
        due.refuses("count(8)", x, o -> o.count(8), -1, 0);
        due.refuses("count(-1)", x, o -> o.count(-1), -1, 0);
    }

    private static void findings() {
        ThirdLeft x = Due.tableOf("p9 e1");
        x.at(0, 0);
        x.at(0, 0);
        due.is("finding() NOTHING", x.finding(), 1);
        x.row(0, 0);
        x.at(0, 0);
        due.is("finding() BEYOND", x.finding(), 2);
        x.mark(0, 4);
        due.is("finding() UNLIKE", x.finding(), 3);
        x.mean(0);
        due.is("finding() NOUGHT", x.finding(), 4);
        x.row(0, -1);
        due.is("finding() SIZE", x.finding(), 5);
        x.eater(9, 9);
        x.table(0);
        due.is("finding() stands", x.finding(), 5);
        int[] want = {0, 2, 1, 1, 1, 1};
        for (int f = 1; f <= 5; f++) {
            due.is("findings(" + f + ")", x.findings(f), want[f]);
        }
        due.refuses("findings(0)", x, o -> o.findings(0), -1, 0);
        due.refuses("findings(6)", x, o -> o.findings(6), -1, 0);
    }

    private static void digestOfNew() {
        // Eight counts, the pot, the law, by parts, 0 by 1, three evenings, six rows, four texts.
        long wanted = digestOf(0, 0, 0, 0, 0, 0, 0, 0, 0, 0, 0, 0, 1,
                -1, -1, -1, -1, -1, -1, -1, -1, -1, -1, -1, -1, -1);
        due.is("digest() of a new one", new ThirdLeft().digest(), wanted);
    }

    private static void digestOfAll() {
        ThirdLeft x = Due.tableOf("p100l0 g12e10");
        Due.fill(x, 1, -5, 7);
        Due.fill(x, 3, 1, 0);
        x.row(4, 0);
        x.order(3);
        x.begin(1);
        x.keep(2);
        x.begin(0);
        x.eat();
        x.keep(0);
        x.eat();
        x.law(2);
        x.pot(40);
        Due.write(x, 0, "p8");
        x.put(0, 1, 200);
        x.mean(1);
        // The one of the evening's order eats first: 200/3, then the guest 100/9; 200/9 are left.
        long wanted = digestOf(2, 22, 1, 0, 2, 2, 3, 1, 40, 2,
                1, 12, 1, 0, 10, 0,
                0, 200, 9,
                1, 200, 3, 0, 100, 9,
                1, -1, 0,
                -1, 2, -5, 7, -1, 2, 1, 0, 0, -1,
                2, 112, -56, -1, -1, -1);
        due.is("digest()", x.digest(), wanted);
        x.begin(1);
        x.eat();
        // By pieces of 40 by a half: the eater 20.
        due.is("digest() by pieces", x.digest(), digestOf(2, 22, 1, 0, 1, 2, 3, 1, 40, 2,
                1, 12, 1, 0, 10, 0,
                1, 20, 1,
                1, 20, 1,
                1, -1, 0,
                -1, 2, -5, 7, -1, 2, 1, 0, 0, -1,
                2, 112, -56, -1, -1, -1));
        due.is("asked() stays", x.asked(), 1);
        due.is("upper() stays", x.upper(), 20);
    }

    private static long digestOf(long... values) {
        long h = 17;
        for (long v : values) {
            h = 31 * h + v;
        }
        return h;
    }
}
