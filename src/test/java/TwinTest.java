import java.util.Arrays;
import java.util.Random;

/** Runs of calls, drawn by fixed seeds, on ThirdLeft and on the plain twin: all must answer alike. */
public final class TwinTest {
    private static final Due due = new Due("TwinTest");
    private static final String[] CALLS = {
        "row", "lay", "lay", "at", "tear", "copy", "mean", "text", "put", "put", "fault", "table", "eater", "mark",
        "mark", "law", "pot", "need", "order", "begin", "eat", "eat", "eat", "eat", "took", "left", "fed", "keep",
        "on", "evening", "place", "favours", "least", "best", "most", "kind", "week", "even", "two", "scales",
        "cheats", "bones", "last", "ahead", "famine", "kindest", "kitchens", "count", "finding", "findings", "left!",
        "TABLE", "TABLE", "ORDER", "ORDER",
    };
    private static final int[] ODD = {
        -1, 60, 61, 999, 1000, 127, 128, -128, Integer.MAX_VALUE, Integer.MIN_VALUE, 2147483646, 8, 100,
    };
    private static int eaters;
    private static int pieces;

    public static void main(String[] args) {
        for (int seed = 1; seed <= 250; seed++) {
            run(seed, seed % 25 == 0 ? 7 : 5);
        }
        faults();
        due.end();
    }

    private static void run(int seed, int crowd) {
        Random random = new Random(seed);
        ThirdLeft x = new ThirdLeft();
        PlainTwin twin = new PlainTwin();
        eaters = 0;
        int calls = 0;
        while (calls < 430) {
            String name = CALLS[random.nextInt(CALLS.length)];
            if (calls == 0 && seed % 5 != 0) {
                name = "TABLE";
            }
            if (name.equals("TABLE")) {
                calls += table(random, x, twin, tableText(random, crowd));
            } else if (name.equals("ORDER")) {
                calls += order(random, x, twin);
            } else if (name.equals("left!")) {
                calls += both(x, twin, "evening", 1);
                pieces = (int) Math.min(999, x.upper());
            } else {
                calls += both(x, twin, name, arguments(random, name));
            }
        }
        due.is("seed " + seed + ": digest()", x.digest(), twin.digest());
    }

    private static String tableText(Random random, int crowd) {
        StringBuilder s = new StringBuilder();
        s.append(blanks(random)).append('p').append(1 + random.nextInt(random.nextBoolean() ? 999 : 60));
        s.append(blanks(random));
        if (random.nextInt(3) > 0) {
            s.append('l').append(random.nextInt(4)).append(blanks(random));
        }
        int n = random.nextInt(crowd + 1);
        int most = random.nextBoolean() ? 100 : 12;
        for (int k = 0; k < n; k++) {
            s.append("eegcnndkk".charAt(random.nextInt(9))).append(random.nextInt(most)).append(blanks(random));
        }
        return s.toString();
    }

    private static String blanks(Random random) {
        return random.nextInt(4) == 0 ? " " : "";
    }

    private static int table(Random random, ThirdLeft x, PlainTwin twin, String text) {
        int t = random.nextInt(4);
        both(x, twin, "text", t, text.length());
        for (int i = 0; i < text.length(); i++) {
            both(x, twin, "put", t, i, text.charAt(i));
        }
        both(x, twin, "fault", t);
        both(x, twin, "table", t);
        eaters = x.count(0);
        return text.length() + 4;
    }

    private static int order(Random random, ThirdLeft x, PlainTwin twin) {
        int r = random.nextInt(6);
        int[] line = new int[eaters];
        both(x, twin, "row", r, eaters);
        for (int i = 0; i < eaters; i++) {
            int j = random.nextInt(i + 1);
            line[i] = line[j];
            line[j] = i;
        }
        for (int i = 0; i < eaters; i++) {
            both(x, twin, "lay", r, i, random.nextInt(60) == 0 ? random.nextInt(9) - 1 : line[i]);
        }
        both(x, twin, "order", r);
        return eaters + 2;
    }

    private static int[] arguments(Random random, String name) {
        int[] a = new int[5];
        for (int i = 0; i < a.length; i++) {
            a[i] = random.nextInt(Math.max(eaters, 3));
        }
        switch (name) {
            case "row": case "text": a[1] = random.nextInt(9); break;
            case "copy": a[2] = random.nextInt(3); a[4] = random.nextInt(4); break;
            case "put": a[2] = "p l e0123456789gcndk".charAt(random.nextInt(20)); break;
            case "pot": a[0] = 1 + random.nextInt(random.nextBoolean() ? 999 : 60); break;
            case "need": a[1] = random.nextInt(random.nextBoolean() ? 100 : 12); break;
            case "mark": a[1] = random.nextInt(7); break;
            case "law": a[0] = random.nextInt(4); break;
            case "begin": case "evening": case "least": case "most": case "kind": case "two": case "best":
                a[0] = random.nextInt(2); break;
            case "favours": a[1] = random.nextInt(2); break;
            case "place": a[2] = random.nextInt(2); break;
            case "week": a[1] = 1 + random.nextInt(7); a[2] = random.nextInt(2); break;
            case "even": a[0] = 1 + random.nextInt(4); a[1] = random.nextInt(2); break;
            case "famine": case "kindest": a[0] = 1 + random.nextInt(7); a[1] = random.nextInt(2); break;
            case "kitchens": a[0] = 1 + random.nextInt(40); a[1] = random.nextInt() >>> 1; a[2] = random.nextInt(2); break;
            case "bones": case "last": a[0] = random.nextInt(4) > 0 ? pieces : random.nextInt(10); break;
            case "ahead": a[2] = random.nextInt(4) > 0 ? pieces : random.nextInt(10); break;
            case "count": a[0] = random.nextInt(9); break;
            case "findings": a[0] = random.nextInt(7); break;
            default: break;
        }
        if (random.nextInt(25) == 0) {
            a[random.nextInt(5)] = ODD[random.nextInt(ODD.length)];
        }
        return a;
    }

    private static int both(ThirdLeft x, PlainTwin twin, String name, int... given) {
        int[] a = Arrays.copyOf(given, 5);
        String call = name + Arrays.toString(a);
        due.is(call, answer(x, name, a), twin.call(name, a));
        due.is(call + ", asked()", x.asked(), twin.call("asked", a));
        due.is(call + ", finding()", x.finding(), twin.call("finding", a));
        due.is(call + ", upper()", x.upper(), twin.upper());
        due.is(call + ", lower()", x.lower(), twin.lower());
        due.is(call + ", digest()", x.digest(), twin.digest());
        return 1;
    }

    /** Texts that are all but tables. */
    private static void faults() {
        Random random = new Random(77);
        String signs = "pppll e0123456789gcndk x";
        for (int i = 0; i < 20000; i++) {
            ThirdLeft x = new ThirdLeft();
            PlainTwin twin = new PlainTwin();
            StringBuilder s = new StringBuilder(tableText(random, 7));
            if (random.nextInt(4) == 0) {
                s.insert(0, random.nextBoolean() ? "p0" : "p00");
            }
            for (int j = random.nextInt(3); j > 0 && s.length() > 1; j--) {
                int at = random.nextInt(s.length());
                if (random.nextBoolean()) {
                    s.setCharAt(at, signs.charAt(random.nextInt(signs.length())));
                } else if (random.nextBoolean()) {
                    s.insert(at, signs.charAt(random.nextInt(signs.length())));
                } else {
                    s.setLength(at + 1);
                }
            }
            int size = Math.min(60, s.length());
            x.text(1, size);
            twin.call("text", new int[] {1, size});
            for (int j = 0; j < size; j++) {
                x.put(1, j, s.charAt(j));
                twin.call("put", new int[] {1, j, s.charAt(j)});
            }
            due.is("fault of '" + s + "'", x.fault(1), twin.call("fault", new int[] {1}));
            due.is("table of '" + s + "'", x.table(1), twin.call("table", new int[] {1}));
            due.is("digest by '" + s + "'", x.digest(), twin.digest());
        }
    }

    private static int answer(ThirdLeft x, String name, int[] a) {
        switch (name) {
            case "row": return x.row(a[0], a[1]);
            case "lay": return x.lay(a[0], a[1], a[2]);
            case "at": return x.at(a[0], a[1]);
            case "tear": return x.tear(a[0]);
            case "copy": return x.copy(a[0], a[1], a[2], a[3], a[4]);
            case "mean": return x.mean(a[0]);
            case "text": return x.text(a[0], a[1]);
            case "put": return x.put(a[0], a[1], a[2]);
            case "fault": return x.fault(a[0]);
            case "table": return x.table(a[0]);
            case "eater": return x.eater(a[0], a[1]);
            case "mark": return x.mark(a[0], a[1]);
            case "law": return x.law(a[0]);
            case "pot": return x.pot(a[0]);
            case "need": return x.need(a[0], a[1]);
            case "order": return x.order(a[0]);
            case "begin": return x.begin(a[0]);
            case "eat": return x.eat();
            case "took": return x.took(a[0]);
            case "left": return x.left();
            case "fed": return x.fed();
            case "keep": return x.keep(a[0]);
            case "on": return x.on(a[0]);
            case "evening": return x.evening(a[0]);
            case "place": return x.place(a[0], a[1], a[2]);
            case "favours": return x.favours(a[0], a[1]);
            case "least": return x.least(a[0]);
            case "best": return x.best(a[0], a[1]);
            case "most": return x.most(a[0]);
            case "kind": return x.kind(a[0]);
            case "week": return x.week(a[0], a[1], a[2]);
            case "even": return x.even(a[0], a[1]);
            case "two": return x.two(a[0]);
            case "scales": return x.scales();
            case "cheats": return x.cheats();
            case "bones": return x.bones(a[0]);
            case "last": return x.last(a[0]);
            case "ahead": return x.ahead(a[0], a[1], a[2]);
            case "famine": return x.famine(a[0], a[1]);
            case "kindest": return x.kindest(a[0], a[1]);
            case "kitchens": return x.kitchens(a[0], a[1], a[2], a[3]);
            case "count": return x.count(a[0]);
            case "finding": return x.finding();
            case "findings": return x.findings(a[0]);
            default: throw new IllegalArgumentException(name);
        }
    }
}
