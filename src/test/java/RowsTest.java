/** Promises 1 to 7: a new object, rows. */
public final class RowsTest {
    private static final int NOTHING = 1, BEYOND = 2, NOUGHT = 4, SIZE = 5;
    private static final Due due = new Due("RowsTest");

    public static void main(String[] args) {
        newObject();
        rowsAreMade();
        layAndAt();
        tear();
        copy();
        mean();
        due.end();
    }

    private static void newObject() {
        ThirdLeft x = new ThirdLeft();
        for (int what = 0; what <= 7; what++) {
            due.is("count(" + what + ")", x.count(what), 0);
        }
        due.is("asked()", x.asked(), 0);
        due.is("upper()", x.upper(), 0);
        due.is("lower()", x.lower(), 1);
        due.is("finding()", x.finding(), 0);
        due.tells("left()", x, x.left(), 0, 0, 1);
        due.is("law(2)", x.law(2), 0);
        due.is("pot(9)", x.pot(9), 0);
    }

    private static void rowsAreMade() {
        ThirdLeft x = new ThirdLeft();
        due.is("row(0, 0)", x.row(0, 0), 0);
        due.is("row(5, 60)", x.row(5, 60), 60);
        due.asks("at(5, 59)", x, x.at(5, 59), 1, 0);
        due.is("count(6)", x.count(6), 2);
        x.lay(5, 3, 8);
        due.is("row(5, 4) anew", x.row(5, 4), 4);
        due.asks("at(5, 3)", x, x.at(5, 3), 1, 0);
        due.is("count(6)", x.count(6), 2);
        due.refuses("row(-1, 1)", x, o -> o.row(-1, 1), -1, 0);
        due.refuses("row(6, 1)", x, o -> o.row(6, 1), -1, 0);
        due.refuses("row(6, -1)", x, o -> o.row(6, -1), -1, 0);
        due.refuses("row(5, 61)", x, o -> o.row(5, 61), -1, 0);
        due.refuses("row(5, -1)", x, o -> o.row(5, -1), -3, SIZE);
        due.refuses("row(5, MIN)", x, o -> o.row(5, Integer.MIN_VALUE), -3, SIZE);
    }

    private static void layAndAt() {
        ThirdLeft x = new ThirdLeft();
        x.row(1, 3);
        due.asks("lay(1, 2, -7)", x, x.lay(1, 2, -7), 1, 0);
        due.asks("lay(1, 2, MAX)", x, x.lay(1, 2, Integer.MAX_VALUE), 1, -7);
        due.asks("at(1, 2)", x, x.at(1, 2), 1, Integer.MAX_VALUE);
        due.asks("at(1, 1)", x, x.at(1, 1), 1, 0);
        due.refuses("lay(6, 0, 1)", x, o -> o.lay(6, 0, 1), -1, 0);
        due.refuses("lay(-1, 0, 1)", x, o -> o.lay(-1, 0, 1), -1, 0);
        due.refuses("lay(0, 9, 1)", x, o -> o.lay(0, 9, 1), -3, NOTHING);
        due.refuses("lay(1, 3, 1)", x, o -> o.lay(1, 3, 1), -3, BEYOND);
        due.refuses("lay(1, -1, 1)", x, o -> o.lay(1, -1, 1), -3, BEYOND);
        due.refuses("at(6, 0)", x, o -> o.at(6, 0), -1, 0);
        due.refuses("at(0, 0)", x, o -> o.at(0, 0), -3, NOTHING);
        due.refuses("at(1, 3)", x, o -> o.at(1, 3), -3, BEYOND);
        due.refuses("at(1, MIN)", x, o -> o.at(1, Integer.MIN_VALUE), -3, BEYOND);
    }

    private static void tear() {
        ThirdLeft x = new ThirdLeft();
        x.row(2, 3);
        due.is("tear(2)", x.tear(2), 1);
        due.is("count(6)", x.count(6), 0);
        due.refuses("tear(2) again", x, o -> o.tear(2), -3, NOTHING);
        due.refuses("tear(-1)", x, o -> o.tear(-1), -1, 0);
        due.refuses("tear(6)", x, o -> o.tear(6), -1, 0);
    }

    private static void copy() {
        ThirdLeft x = new ThirdLeft();
        Due.fill(x, 0, 1, 2, 3, 4, 5);
        Due.fill(x, 1, 9, 9, 9);
        due.is("copy(0, 3, 1, 0, 2)", x.copy(0, 3, 1, 0, 2), 1);
        rowIs(x, 1, 4, 5, 9);
        due.is("copy(0, 0, 0, 1, 4)", x.copy(0, 0, 0, 1, 4), 1);
        rowIs(x, 0, 1, 1, 2, 3, 4);
        due.is("copy(0, 1, 0, 0, 4)", x.copy(0, 1, 0, 0, 4), 1);
        rowIs(x, 0, 1, 2, 3, 4, 4);
        due.is("copy(0, 5, 1, 3, 0)", x.copy(0, 5, 1, 3, 0), 1);
        due.refuses("copy(6, 0, 1, 0, -1)", x, o -> o.copy(6, 0, 1, 0, -1), -1, 0);
        due.refuses("copy(0, 0, 6, 0, 1)", x, o -> o.copy(0, 0, 6, 0, 1), -1, 0);
        due.refuses("copy(2, 0, 1, 0, -1)", x, o -> o.copy(2, 0, 1, 0, -1), -3, SIZE);
        due.refuses("copy(2, 9, 1, 0, 1)", x, o -> o.copy(2, 9, 1, 0, 1), -3, NOTHING);
        due.refuses("copy(0, 9, 2, 0, 1)", x, o -> o.copy(0, 9, 2, 0, 1), -3, NOTHING);
        due.refuses("copy(0, 6, 1, 0, 0)", x, o -> o.copy(0, 6, 1, 0, 0), -3, BEYOND);
        due.refuses("copy(0, 0, 1, 4, 0)", x, o -> o.copy(0, 0, 1, 4, 0), -3, BEYOND);
        due.refuses("copy(0, -1, 1, 0, 0)", x, o -> o.copy(0, -1, 1, 0, 0), -3, BEYOND);
        due.refuses("copy(0, 0, 1, -1, 0)", x, o -> o.copy(0, 0, 1, -1, 0), -3, BEYOND);
        due.refuses("copy(0, 0, 1, 0, 4)", x, o -> o.copy(0, 0, 1, 0, 4), -3, BEYOND);
        due.refuses("copy(1, 0, 0, 0, 4)", x, o -> o.copy(1, 0, 0, 0, 4), -3, BEYOND);
        due.refuses("copy(1, 1, 0, 0, MAX)", x, o -> o.copy(1, 1, 0, 0, Integer.MAX_VALUE), -3, BEYOND);
        due.refuses("copy(1, MAX, 0, 0, 1)", x, o -> o.copy(1, Integer.MAX_VALUE, 0, 0, 1), -3, BEYOND);
    }

    private static void mean() {
        ThirdLeft x = new ThirdLeft();
        Due.fill(x, 0, 3, 4, 4);
        due.asks("mean(3, 4, 4)", x, x.mean(0), 1, 3);
        Due.fill(x, 0, -3, -4, -4);
        due.asks("mean(-3, -4, -4)", x, x.mean(0), 1, -3);
        Due.fill(x, 0, Integer.MAX_VALUE, Integer.MAX_VALUE, Integer.MAX_VALUE);
        due.asks("mean of the greatest", x, x.mean(0), 1, Integer.MAX_VALUE);
        Due.fill(x, 0, Integer.MIN_VALUE, Integer.MIN_VALUE);
        due.asks("mean of the least", x, x.mean(0), 1, Integer.MIN_VALUE);
        x.row(1, 0);
        due.refuses("mean(1)", x, o -> o.mean(1), -3, NOUGHT);
        due.refuses("mean(2)", x, o -> o.mean(2), -3, NOTHING);
        due.refuses("mean(6)", x, o -> o.mean(6), -1, 0);
        due.refuses("mean(-1)", x, o -> o.mean(-1), -1, 0);
    }

    private static void rowIs(ThirdLeft x, int r, int... values) {
        for (int i = 0; i < values.length; i++) {
            due.asks("at(" + r + ", " + i + ")", x, x.at(r, i), 1, values[i]);
        }
        due.is("row " + r + " ends", x.at(r, values.length), -3);
    }
}
