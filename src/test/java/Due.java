/** Counts the answers of one test class and prints those that are not due. */
final class Due {
    private final String name;
    private int right;
    private int wrong;

    Due(String name) {
        this.name = name;
    }

    void is(String call, long got, long want) {
        if (got == want) {
            right++;
            return;
        }
        wrong++;
        if (wrong <= 100) {
            System.out.println(name + ": " + call + " answered " + got + ", due is " + want);
        }
    }

    /** A call that tells a fraction besides its answer. */
    void tells(String call, ThirdLeft x, long got, long want, long upper, long lower) {
        is(call, got, want);
        is(call + ", upper()", x.upper(), upper);
        is(call + ", lower()", x.lower(), lower);
    }

    /** A call that tells a number by asked() besides its answer. */
    void asks(String call, ThirdLeft x, long got, long want, long asked) {
        is(call, got, want);
        is(call + ", asked()", x.asked(), asked);
    }

    /** A call that is refused, and with which finding (0: with none). */
    void refuses(String call, ThirdLeft x, Call refused, int want, int finding) {
        long digest = x.digest();
        int asked = x.asked();
        long upper = x.upper();
        long lower = x.lower();
        int latest = x.finding();
        int[] counts = new int[6];
        for (int f = 1; f <= 5; f++) {
            counts[f] = x.findings(f);
        }
        is(call, refused.on(x), want);
        is(call + " leaves digest()", x.digest(), digest);
        is(call + " leaves asked()", x.asked(), asked);
        is(call + " leaves upper()", x.upper(), upper);
        is(call + " leaves lower()", x.lower(), lower);
        is(call + ", finding()", x.finding(), finding == 0 ? latest : finding);
        for (int f = 1; f <= 5; f++) {
            is(call + ", findings(" + f + ")", x.findings(f), counts[f] + (f == finding ? 1 : 0));
        }
    }

    interface Call {
        int on(ThirdLeft x);
    }

    /** The last call of a main method. */
    void end() {
        System.out.println(name + ": " + right + " answers are as due, " + wrong + " are not");
        if (wrong != 0) {
            System.exit(1);
        }
    }

    static ThirdLeft tableOf(String table) {
        ThirdLeft x = new ThirdLeft();
        write(x, 0, table);
        if (x.table(0) < 0) {
            throw new IllegalStateException("no table: " + table);
        }
        return x;
    }

    static void write(ThirdLeft x, int t, String text) {
        x.text(t, text.length());
        for (int i = 0; i < text.length(); i++) {
            x.put(t, i, text.charAt(i));
        }
    }

    static void fill(ThirdLeft x, int r, int... values) {
        x.row(r, values.length);
        for (int i = 0; i < values.length; i++) {
            x.lay(r, i, values[i]);
        }
    }
}
