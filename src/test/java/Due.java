/** Counts the answers of one test class and prints those that are not due. */
final class Due {
    private static final String[] STANDS = {"finding()", "findings(1)", "findings(2)", "findings(3)", "findings(4)",
        "findings(5)", "asked()", "upper()", "lower()", "digest()"};

    private final String name;
    private int right;
    private int wrong;

    Due(String name) {
        this.name = name;
    }

    void is(String call, long got, long want) {
        if (got == want) {
            right++;
            return;
        }
        wrong++;
        if (wrong <= 100) {
            System.out.println(name + ": " + call + " answered " + got + ", due is " + want);
        }
    }

    /** A call that tells a fraction besides its answer. */
    void tells(String call, ThirdLeft x, long got, long want, long upper, long lower) {
        is(call, got, want);
        is(call + ", upper()", x.upper(), upper);
        is(call + ", lower()", x.lower(), lower);
    }

    /** A call that tells a number by asked() besides its answer. */
    void asks(String call, ThirdLeft x, long got, long want, long asked) {
        is(call, got, want);
        is(call + ", asked()", x.asked(), asked);
    }

    /** A call that is refused, and with which finding (0: with none). */
    void refuses(String call, ThirdLeft x, Call refused, int want, int finding) {
        long[] before = stands(x);
        is(call, refused.on(x), want);
        stays(call, before, stands(x), finding);
    }

    /** The findings, and all that a refused call leaves as it is. */
    static long[] stands(ThirdLeft x) {
        return new long[] {x.finding(), x.findings(1), x.findings(2), x.findings(3), x.findings(4), x.findings(5),
            x.asked(), x.upper(), x.lower(), x.digest()};
    }

    /** What stands behind a call that is refused with a finding (0: with none). */
    void stays(String call, long[] before, long[] behind, int finding) {
        for (int i = 0; i < STANDS.length; i++) {
            long want = before[i];
            if (finding != 0 && i == 0) {
                want = finding;
            } else if (finding != 0 && i == finding) {
                want = before[i] + 1;
            }
            is(call + ", " + STANDS[i], behind[i], want);
        }
    }

    interface Call {
        int on(ThirdLeft x);
    }

    int answers() {
        return right + wrong;
    }

    void add(Due other) {
        right += other.right;
        wrong += other.wrong;
    }

    /** The last call of a main method. */
    void end() {
        System.out.println(name + ": " + right + " answers are as due, " + wrong + " are not");
        if (wrong != 0) {
            System.exit(1);
        }
    }

    static ThirdLeft tableOf(String table) {
        ThirdLeft x = new ThirdLeft();
        write(x, 0, table);
        if (x.table(0) < 0) {
            throw new IllegalStateException("no table: " + table);
        }
        return x;
    }

    static void write(ThirdLeft x, int t, String text) {
        x.text(t, text.length());
        for (int i = 0; i < text.length(); i++) {
            x.put(t, i, text.charAt(i));
        }
    }

    static void fill(ThirdLeft x, int r, int... values) {
        x.row(r, values.length);
        for (int i = 0; i < values.length; i++) {
            x.lay(r, i, values[i]);
        }
    }
}
