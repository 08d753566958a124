import java.util.ArrayList;
import java.util.Arrays;
import java.util.Collections;
import java.util.List;

/** The document once more, as plainly as can be and without a thought of speed: what ThirdLeft is held against. */
final class PlainTwin {
    private final List<List<Integer>> rows = new ArrayList<>();
    private final List<List<Integer>> texts = new ArrayList<>();
    private int[] kinds = new int[0];
    private int[] needs = new int[0];
    private List<Integer> order = new ArrayList<>();
    private int law;
    private int pot;
    private Gone now = new Gone();
    private final Gone[] kept = new Gone[3];
    private int asked;
    private Share told = Share.whole(0);
    private int finding;
    private final int[] findings = new int[6];

    /** An evening, or a part of one. */
    private static final class Gone {
        int how;
        List<Integer> line = new ArrayList<>();
        List<Share> takes = new ArrayList<>();
        Share there = Share.whole(0);

        Gone another() {
            Gone g = new Gone();
            g.how = how;
            g.line = new ArrayList<>(line);
            g.takes = new ArrayList<>(takes);
            g.there = there;
            return g;
        }

        Share of(int k) {
            int i = line.indexOf(k);
            return i < 0 || i >= takes.size() ? null : takes.get(i);
        }
    }

    PlainTwin() {
        for (int i = 0; i < 6; i++) {
            rows.add(null);
        }
        for (int i = 0; i < 4; i++) {
            texts.add(null);
        }
    }

    int call(String name, int[] a) {
        switch (name) {
            case "row": return anew(rows, a[0], a[1], 0);
            case "text": return anew(texts, a[0], a[1], 32);
            case "lay": return lay(a[0], a[1], a[2]);
            case "at": return at(a[0], a[1]);
            case "tear": return tear(a[0]);
            case "copy": return copy(a[0], a[1], a[2], a[3], a[4]);
            case "mean": return mean(a[0]);
            case "put": return put(a[0], a[1], a[2]);
            case "fault": return fault(a[0]);
            case "table": return table(a[0]);
            case "eater": return eater(a[0], a[1]);
            case "mark": return mark(a[0], a[1]);
            case "law": return law(a[0]);
            case "pot": return pot(a[0]);
            case "need": return need(a[0], a[1]);
            case "order": return order(a[0]);
            case "begin": return begin(a[0]);
            case "eat": return eat();
            case "took": return took(a[0]);
            case "left": return left();
            case "fed": return fed();
            case "keep": return keep(a[0]);
            case "on": return on(a[0]);
            case "evening": return evening(a[0]);
            case "place": return place(a[0], a[1], a[2]);
            case "favours": return favours(a[0], a[1]);
            case "least": return least(a[0]);
            case "best": return best(a[0], a[1]);
            case "most": return most(a[0]);
            case "kind": return kind(a[0]);
            case "week": return week(a[0], a[1], a[2]);
            case "even": return even(a[0], a[1]);
            case "two": return two(a[0]);
            case "scales": return scales();
            case "cheats": return cheats();
            case "bones": return bones(a[0]);
            case "last": return last(a[0]);
            case "ahead": return ahead(a[0], a[1], a[2]);
            case "famine": return famine(a[0], a[1]);
            case "kindest": return kindest(a[0], a[1]);
            case "kitchens": return kitchens(a[0], a[1], a[2], a[3]);
            case "asked": return asked;
            case "count": return a[0] < 0 || a[0] > 7 ? -1 : count(a[0]);
            case "finding": return finding;
            case "findings": return a[0] < 1 || a[0] > 5 ? -1 : findings[a[0]];
            default: throw new IllegalArgumentException(name);
        }
    }

    long upper() {
        return told.upper();
    }

    long lower() {
        return told.lower();
    }

    private int found(int f) {
        finding = f;
        findings[f]++;
        return -3;
    }

    private int asks(int v, int answer) {
        asked = v;
        return answer;
    }

    private int tells(Share s, int answer) {
        told = s;
        return answer;
    }

    private static boolean in(int v, int low, int high) {
        return v >= low && v <= high;
    }

    private boolean isEater(int k) {
        return in(k, 0, kinds.length - 1);
    }

    // ---- rows, texts, tables

    private int anew(List<List<Integer>> of, int r, int n, int filling) {
        if (!in(r, 0, of.size() - 1) || n > 60) return -1;
        if (n < 0) return found(5);
        of.set(r, new ArrayList<>(Collections.nCopies(n, filling)));
        return n;
    }

    private int lay(int r, int i, int v) {
        if (!in(r, 0, 5)) return -1;
        if (rows.get(r) == null) return found(1);
        if (!in(i, 0, rows.get(r).size() - 1)) return found(2);
        return asks(rows.get(r).set(i, v), 1);
    }

    private int at(int r, int i) {
        if (!in(r, 0, 5)) return -1;
        if (rows.get(r) == null) return found(1);
        if (!in(i, 0, rows.get(r).size() - 1)) return found(2);
        return asks(rows.get(r).get(i), 1);
    }

    private int tear(int r) {
        if (!in(r, 0, 5)) return -1;
        if (rows.get(r) == null) return found(1);
        rows.set(r, null);
        return 1;
    }

    private int copy(int r, int i, int to, int j, int n) {
        if (!in(r, 0, 5) || !in(to, 0, 5)) return -1;
        if (n < 0) return found(5);
        if (rows.get(r) == null || rows.get(to) == null) return found(1);
        if (i < 0 || j < 0 || (long) i + n > rows.get(r).size() || (long) j + n > rows.get(to).size()) return found(2);
        List<Integer> taken = new ArrayList<>(rows.get(r).subList(i, i + n));
        for (int p = 0; p < n; p++) rows.get(to).set(j + p, taken.get(p));
        return 1;
    }

    private int mean(int r) {
        if (!in(r, 0, 5)) return -1;
        if (rows.get(r) == null) return found(1);
        if (rows.get(r).isEmpty()) return found(4);
        long sum = 0;
        for (int v : rows.get(r)) sum += v;
        return asks((int) (sum / rows.get(r).size()), 1);
    }

    private int put(int t, int i, int v) {
        if (!in(t, 0, 3)) return -1;
        if (texts.get(t) == null) return found(1);
        if (!in(i, 0, texts.get(t).size() - 1)) return found(2);
        return 1000 + texts.get(t).set(i, (int) (byte) v);
    }

    /** Tries, place by place, whether a text that begins so can be one of a table. */
    private static int faultOf(List<Integer> text) {
        String s = "";
        for (int b : text) s += b < 0 ? '?' : (char) b;
        String item = "[egcndk][0-9]{1,2}";
        String pot = "(?!0{1,3}( |[a-z]|$))[0-9]{1,3}";
        if (s.matches(" *p" + pot + " *(l[0-3] *)?(" + item + " *){0,7}")) return -9;
        for (int n = 1; n <= s.length(); n++) {
            String begun = s.substring(0, n);
            // What has begun well: it can be gone on from to a whole table.
            boolean well = begun.matches(" *|( *p[0-9]{0,3})| *p" + pot + " *(l?|l[0-3] *(" + item
                    + " *){0,7}|(" + item + " *){1,7}|(l[0-3] *)?(" + item + " *){0,6}[egcndk])");
            // Noughts alone are a pot out of these as soon as no figure can follow.
            boolean noughts = begun.matches(" *p0{1,3}");
            boolean more = n < s.length() && in(s.charAt(n), '0', '9') && !begun.matches(" *p0{3}");
            if (noughts && !more) return n;
            if (!well) return n - 1;
        }
        return s.length();
    }

    private int fault(int t) {
        if (!in(t, 0, 3)) return -1;
        if (texts.get(t) == null) return found(1);
        return faultOf(texts.get(t));
    }

    private int table(int t) {
        if (!in(t, 0, 3)) return -1;
        if (texts.get(t) == null) return found(1);
        if (faultOf(texts.get(t)) != -9) return -4;
        StringBuilder s = new StringBuilder();
        for (int b : texts.get(t)) s.append((char) b);
        String[] items = s.toString().replaceAll("([a-z])", " $1").trim().split(" +");
        pot = Integer.parseInt(items[0].substring(1));
        law = 0;
        List<String> eaters = new ArrayList<>(Arrays.asList(items).subList(1, items.length));
        if (!eaters.isEmpty() && eaters.get(0).charAt(0) == 'l') law = Integer.parseInt(eaters.remove(0).substring(1));
        kinds = new int[eaters.size()];
        needs = new int[eaters.size()];
        order = new ArrayList<>();
        for (int k = 0; k < kinds.length; k++) {
            kinds[k] = "egcndk".indexOf(eaters.get(k).charAt(0));
            needs[k] = Integer.parseInt(eaters.get(k).substring(1));
            order.add(k);
        }
        Arrays.fill(kept, null);
        begin(0);
        return kinds.length;
    }

    private int about(int k, int what) {
        return what == 0 ? kinds[k] : what == 1 ? needs[k] : order.indexOf(k);
    }

    private int eater(int k, int what) {
        if (!isEater(k) || !in(what, 0, 2)) return -1;
        return asks(about(k, what), 1);
    }

    private boolean isOf(int k, int kind) {
        int[] parent = {-1, 0, 0, 0, 0, 1};
        for (int own = kinds[k]; own >= 0; own = parent[own]) {
            if (own == kind) return true;
        }
        return false;
    }

    private int mark(int k, int kind) {
        if (!isEater(k) || !in(kind, 1, 5)) return -1;
        if (!isOf(k, kind)) return found(3);
        if (kind == 1) return order.indexOf(k);
        if (kind == 2) return kinds.length - order.indexOf(k) - 1;
        if (kind == 3) return (int) may(Share.whole(pot), law, 0, 1).upper() - needs[k];
        if (kind == 4) return fedOf(whole(moved(k, kinds.length - 1), law, 1, pot, kinds)).size();
        Share took = now.of(k);
        return took != null && took.equals(Share.whole(needs[k])) ? 1 : 0;
    }

    private int law(int v) {
        if (!in(v, 0, 3)) return -1;
        int was = law;
        law = v;
        return was;
    }

    private int pot(int v) {
        if (!in(v, 1, 999)) return -1;
        int was = pot;
        pot = v;
        return was;
    }

    private int need(int k, int v) {
        if (!isEater(k) || !in(v, 0, 99)) return -1;
        int was = needs[k];
        needs[k] = v;
        return was;
    }

    private int order(int r) {
        if (!in(r, 0, 5)) return -1;
        if (rows.get(r) == null) return found(1);
        if (rows.get(r).size() != kinds.length) return found(5);
        for (int k = 0; k < kinds.length; k++) {
            if (!rows.get(r).contains(k)) return found(3);
        }
        order = new ArrayList<>(rows.get(r));
        return kinds.length;
    }

    // ---- an evening

    private int begin(int how) {
        if (!in(how, 0, 1)) return -1;
        now = new Gone();
        now.how = how;
        now.line = new ArrayList<>(order);
        now.there = Share.whole(pot);
        return kinds.length;
    }

    private static Share may(Share there, int law, int eaten, int how) {
        int theLaw = law == 3 ? (eaten % 2 == 0 ? 0 : 2) : law;
        int[] part = {3, 4, 2};
        Share may = there.less(there.times(1, part[theLaw]));
        return how == 1 ? may.cutDown() : may;
    }

    private Share take(int kind, int need, Share there, int law, int eaten, int how) {
        Share may = may(there, law, eaten, how);
        Share half = may.times(1, 2);
        Share more = there.less(may).times(1, 2);
        if (how == 1) {
            half = half.cutDown();
            more = more.cutDown();
        }
        Share wanted = Share.whole(need);
        switch (kind) {
            case 1: return half;
            case 2: return may.plus(more);
            case 3: return may.compare(wanted) < 0 ? may : wanted;
            case 4: return there;
            case 5: return half.compare(wanted) < 0 ? half : wanted;
            default: return may;
        }
    }

    private void spoon(Gone g, int law, int[] kinds) {
        int k = g.line.get(g.takes.size());
        Share taken = take(kinds[k], needs[k], g.there, law, g.takes.size(), g.how);
        g.takes.add(taken);
        g.there = g.there.less(taken);
    }

    private Gone whole(List<Integer> line, int law, int how, int pot, int[] kinds) {
        Gone g = new Gone();
        g.how = how;
        g.line = line;
        g.there = Share.whole(pot);
        for (int i = 0; i < line.size(); i++) spoon(g, law, kinds);
        return g;
    }

    private boolean isFed(Gone g, int k) {
        return g.of(k) != null && g.of(k).compare(Share.whole(needs[k])) >= 0;
    }

    private List<Integer> fedOf(Gone g) {
        List<Integer> fed = new ArrayList<>();
        for (int k = 0; k < kinds.length; k++) if (isFed(g, k)) fed.add(k);
        return fed;
    }

    private static int bits(List<Integer> of) {
        int set = 0;
        for (int k : of) set |= 1 << k;
        return set;
    }

    private int eat() {
        if (now.takes.size() == kinds.length) return -4;
        spoon(now, law, kinds);
        int i = now.takes.size() - 1;
        return tells(now.takes.get(i), now.line.get(i));
    }

    private int took(int k) {
        if (!isEater(k)) return -1;
        return now.of(k) == null ? -4 : tells(now.of(k), 1);
    }

    private int left() {
        return tells(now.there, now.takes.size());
    }

    private int fed() {
        return asks(fedOf(now).size(), bits(fedOf(now)));
    }

    private int keep(int k) {
        if (!in(k, 0, 2)) return -1;
        if (kinds.length == 0) return -4;
        kept[k] = now.another();
        return now.takes.size();
    }

    private int on(int k) {
        if (!in(k, 0, 2)) return -1;
        if (kept[k] == null) return found(1);
        now = kept[k].another();
        return now.takes.size();
    }

    // ---- whole evenings

    private int evening(int how) {
        if (!in(how, 0, 1)) return -1;
        Gone g = whole(order, law, how, pot, kinds);
        told = g.there;
        return asks(fedOf(g).size(), bits(fedOf(g)));
    }

    private List<Integer> moved(int k, int at) {
        List<Integer> line = new ArrayList<>(order);
        line.remove((Integer) k);
        line.add(at, k);
        return line;
    }

    private int place(int k, int at, int how) {
        if (!isEater(k) || !isEater(at) || !in(how, 0, 1)) return -1;
        return tells(whole(moved(k, at), law, how, pot, kinds).of(k), 1);
    }

    private int favours(int k, int how) {
        if (!isEater(k) || !in(how, 0, 1)) return -1;
        int where = -1;
        Share most = null;
        for (int at = 0; at < kinds.length; at++) {
            Share s = whole(moved(k, at), law, how, pot, kinds).of(k);
            if (most == null || s.compare(most) > 0) {
                most = s;
                where = at;
            }
        }
        return tells(most, where);
    }

    private boolean allFed(List<Integer> line, int law, int how, int pot) {
        Gone g = new Gone();
        g.how = how;
        g.line = line;
        g.there = Share.whole(pot);
        for (int k : line) {
            spoon(g, law, kinds);
            if (g.takes.get(g.takes.size() - 1).compare(Share.whole(needs[k])) < 0) return false;
        }
        return true;
    }

    private int least(int how) {
        if (!in(how, 0, 1)) return -1;
        if (kinds.length == 0) return -4;
        for (int p = 1; p <= 999; p++) {
            if (allFed(order, law, how, p)) return p;
        }
        return -9;
    }

    private List<List<Integer>> orders() {
        List<List<Integer>> all = new ArrayList<>();
        if (kinds.length > 0) goOn(new ArrayList<>(), all);
        return all;
    }

    private void goOn(List<Integer> begun, List<List<Integer>> all) {
        if (begun.size() == kinds.length) {
            all.add(new ArrayList<>(begun));
            return;
        }
        for (int k = 0; k < kinds.length; k++) {
            if (!begun.contains(k)) {
                begun.add(k);
                goOn(begun, all);
                begun.remove(begun.size() - 1);
            }
        }
    }

    private int best(int how, int r) {
        if (!in(how, 0, 1) || !in(r, 0, 5)) return -1;
        if (kinds.length == 0) return -4;
        List<List<Integer>> all = orders();
        for (int p = 1; p <= 999; p++) {
            for (List<Integer> line : all) {
                if (allFed(line, law, how, p)) {
                    rows.set(r, new ArrayList<>(line));
                    return p;
                }
            }
        }
        return -9;
    }

    private int most(int how) {
        if (!in(how, 0, 1)) return -1;
        if (kinds.length == 0) return -4;
        int[] orders = new int[8];
        for (List<Integer> line : orders()) orders[fedOf(whole(line, law, how, pot, kinds)).size()]++;
        int most = 7;
        while (orders[most] == 0) most--;
        return asks(orders[most], most);
    }

    private int kind(int how) {
        if (!in(how, 0, 1)) return -1;
        if (kinds.length == 0) return -4;
        List<Gone> by = new ArrayList<>();
        for (int l = 0; l < 4; l++) by.add(whole(order, l, how, pot, kinds));
        int best = 0;
        for (int l = 1; l < 4; l++) {
            int more = fedOf(by.get(l)).size() - fedOf(by.get(best)).size();
            if (more > 0 || more == 0 && by.get(l).there.compare(by.get(best).there) > 0) best = l;
        }
        return asks(fedOf(by.get(best)).size(), best);
    }

    // ---- weeks, several pots, cheats

    private List<Integer> turned(int d) {
        List<Integer> line = new ArrayList<>(order);
        Collections.rotate(line, -(d % kinds.length));
        return line;
    }

    private int week(int k, int d, int how) {
        if (!isEater(k) || !in(d, 1, 7) || !in(how, 0, 1)) return -1;
        Share all = Share.whole(0);
        for (int t = 0; t < d; t++) all = all.plus(whole(turned(t), law, how, pot, kinds).of(k));
        return tells(all, 1);
    }

    private int even(int d, int how) {
        if (!in(d, 1, 4) || !in(how, 0, 1)) return -1;
        if (kinds.length == 0) return -4;
        List<List<Integer>> fed = new ArrayList<>();
        for (int t = 0; t < kinds.length; t++) fed.add(fedOf(whole(turned(t), law, how, pot, kinds)));
        int best = -1;
        int which = 0;
        for (int code = 0; code < Math.pow(7, d); code++) {
            int[] times = new int[kinds.length];
            boolean fits = true;
            int rest = code;
            for (int i = 0; i < d && fits; i++) {
                fits = rest % 7 < kinds.length;
                if (fits) for (int k : fed.get(rest % 7)) times[k]++;
                rest /= 7;
            }
            int least = Arrays.stream(times).min().getAsInt();
            if (fits && least > best) {
                best = least;
                which = code;
            }
        }
        return asks(which, best);
    }

    private int two(int how) {
        if (!in(how, 0, 1)) return -1;
        List<Integer> back = new ArrayList<>(order);
        Collections.reverse(back);
        Gone one = whole(order, law, how, pot, kinds);
        Gone other = whole(back, law, how, pot, kinds);
        List<Integer> who = new ArrayList<>();
        for (int k = 0; k < kinds.length; k++) {
            if (one.of(k).plus(other.of(k)).compare(Share.whole(needs[k])) >= 0) who.add(k);
        }
        return asks(who.size(), bits(who));
    }

    private int scales() {
        Share rest = whole(order, law, 0, pot, kinds).there;
        int shown = 0;
        int all = 0;
        for (int k = 0; k < kinds.length; k++) {
            if (kinds[k] != 2) continue;
            all++;
            int[] others = kinds.clone();
            others[k] = 0;
            if (whole(order, law, 0, pot, others).there.less(rest).compare(Share.whole(1)) >= 0) shown |= 1 << k;
        }
        return asks(all, shown);
    }

    private int cheats() {
        int[] others = kinds.clone();
        for (int k = 0; k < others.length; k++) if (others[k] == 2) others[k] = 0;
        Share more = Share.whole(0);
        for (int k = 0; k < kinds.length; k++) {
            if (kinds[k] == 2) {
                more = more.plus(whole(order, law, 0, pot, kinds).of(k)).less(whole(order, law, 0, pot, others).of(k));
            }
        }
        return tells(more, 1);
    }

    // ---- what was left

    private List<List<Integer>> traces(int v) {
        List<List<Integer>> those = new ArrayList<>();
        for (List<Integer> line : orders()) {
            if (whole(line, law, 1, pot, kinds).there.equals(Share.whole(v))) those.add(line);
        }
        return those;
    }

    private int bones(int v) {
        if (!in(v, 0, 999)) return -1;
        if (kinds.length == 0) return -4;
        int n = traces(v).size();
        return tells(Share.of(n, orders().size()), n);
    }

    private int last(int v) {
        if (!in(v, 0, 999)) return -1;
        List<List<Integer>> those = traces(v);
        if (those.isEmpty()) return found(4);
        int first = 0;
        int last = 0;
        for (List<Integer> line : those) {
            first |= 1 << line.get(0);
            last |= 1 << line.get(line.size() - 1);
        }
        return asks(first, last);
    }

    private int ahead(int k, int j, int v) {
        if (!isEater(k) || !isEater(j) || k == j || !in(v, 0, 999)) return -1;
        boolean can = false;
        boolean cannot = false;
        for (List<Integer> line : traces(v)) {
            if (line.indexOf(k) < line.indexOf(j)) can = true;
            else cannot = true;
        }
        if (!can && !cannot) return found(4);
        return can && cannot ? 2 : can ? 1 : 0;
    }

    // ---- famine, lots

    private int famineBy(int d, int how, int law) {
        for (int p = 1; p <= 999; p++) {
            int fed = 0;
            for (int t = 0; t < d; t++) fed |= bits(fedOf(whole(turned(t), law, how, p, kinds)));
            if (fed == (1 << kinds.length) - 1) return p;
        }
        return -9;
    }

    private int famine(int d, int how) {
        if (!in(d, 1, 7) || !in(how, 0, 1)) return -1;
        return kinds.length == 0 ? -4 : famineBy(d, how, law);
    }

    private int kindest(int d, int how) {
        if (!in(d, 1, 7) || !in(how, 0, 1)) return -1;
        if (kinds.length == 0) return -4;
        int best = -9;
        int least = 1000;
        for (int l = 0; l < 4; l++) {
            int p = famineBy(d, how, l);
            if (p != -9 && p < least) {
                best = l;
                least = p;
            }
        }
        return best == -9 ? -9 : asks(least, best);
    }

    private int kitchens(int n, int seed, int how, int r) {
        if (!in(n, 1, 40) || !in(seed, 1, 2147483646) || !in(how, 0, 1) || !in(r, 0, 5)) return -1;
        if (kinds.length == 0) return -4;
        List<Integer> times = new ArrayList<>(Collections.nCopies(kinds.length, 0));
        long number = seed;
        for (int e = 0; e < n; e++) {
            List<Integer> line = new ArrayList<>(order);
            for (int p = kinds.length - 1; p >= 1; p--) {
                number = 48271 * number % 2147483647;
                Collections.swap(line, p, (int) (number % (p + 1)));
            }
            for (int k : fedOf(whole(line, law, how, pot, kinds))) times.set(k, times.get(k) + 1);
        }
        rows.set(r, times);
        return times.indexOf(Collections.max(times));
    }

    // ---- what is told

    private int count(int what) {
        int n = 0;
        switch (what) {
            case 0: return kinds.length;
            case 1: return Arrays.stream(needs).sum();
            case 2: for (int kind : kinds) if (kind == 1 || kind == 5) n++; return n;
            case 3: for (int kind : kinds) if (kind == 2) n++; return n;
            case 4: return now.takes.size();
            case 5: for (Gone g : kept) if (g != null) n++; return n;
            case 6: for (List<Integer> row : rows) if (row != null) n++; return n;
            default: for (List<Integer> text : texts) if (text != null) n++; return n;
        }
    }

    long digest() {
        List<Long> v = new ArrayList<>();
        for (int what = 0; what <= 7; what++) v.add((long) count(what));
        v.add((long) pot);
        v.add((long) law);
        for (int k = 0; k < kinds.length; k++) for (int what = 0; what <= 2; what++) v.add((long) about(k, what));
        v.add((long) now.how);
        v.add(now.there.upper());
        v.add(now.there.lower());
        for (int i = 0; i < now.takes.size(); i++) {
            v.add((long) now.line.get(i));
            v.add(now.takes.get(i).upper());
            v.add(now.takes.get(i).lower());
        }
        for (Gone g : kept) v.add(g == null ? -1L : g.takes.size());
        for (List<List<Integer>> of : List.of(rows, texts)) {
            for (List<Integer> row : of) {
                v.add(row == null ? -1L : row.size());
                if (row != null) for (int i : row) v.add((long) i);
            }
        }
        long h = 17;
        for (long i : v) h = 31 * h + i;
        return h;
    }
}
