import java.math.BigInteger;
import java.util.ArrayList;
import java.util.Arrays;
import java.util.List;
import java.util.regex.Matcher;
import java.util.regex.Pattern;

/** The document once more, written without a thought of room or speed: what StageSieve is held against. */
final class Model {
    private static final Pattern ITEM =
        Pattern.compile("([a-z])([0-9]{1,3})(?:,([0-9]{1,3}))?(?:,([0-9]{1,3}))?(?:,([0-9]{1,3}))?;");

    private String text = "";
    private List<int[]> sorts = List.of(new int[] {10, 5, 5, 0});
    private List<int[]> asks = List.of(new int[] {5, 2, 5, 5});
    private int man = 1;
    private int[] pain = {50, 2};
    private List<int[]> row = new ArrayList<>();
    private List<int[]> told = new ArrayList<>();
    private final List<List<List<int[]>>> kept = new ArrayList<>();

    /** What reading a text comes to. */
    private static final class Read {
        int fault = -4;
        final List<int[]> sorts = new ArrayList<>();
        final List<int[]> asks = new ArrayList<>();
        final List<int[]> row = new ArrayList<>();
        int man = 1;
        int[] pain = {50, 2};

        Read(String text) {
            Matcher matcher = ITEM.matcher(text);
            int place = 0;
            while (place < text.length()) {
                matcher.region(place, text.length());
                if (!matcher.lookingAt() || !take(matcher)) {
                    fault = place;
                    return;
                }
                place = matcher.end();
            }
        }

        private boolean take(Matcher matcher) {
            int n = 0;
            int[] all = new int[4];
            for (int group = 2; group <= 5 && matcher.group(group) != null; group++) {
                all[n++] = Integer.parseInt(matcher.group(group));
            }
            int[] x = Arrays.copyOf(all, n);
            switch (matcher.group(1)) {
                case "s":
                    int people = sorts.stream().mapToInt(s -> s[0]).sum();
                    return n == 4 && in(x[0], 1, 60) && people + x[0] <= 120 && in(x[1], 0, 10) && in(x[2], 0, 10)
                        && in(x[3], 0, 10) && sorts.size() < 6 && sorts.add(x);
                case "a":
                    return n == 4 && in(x[0], 0, 10) && in(x[1], 0, 10) && in(x[2], 0, 10) && in(x[3], 1, 30)
                        && asks.size() < 6 && asks.add(x);
                case "t":
                    return n == 2 && x[0] < asks.size() && x[1] < 2 && row.size() < 8 && row.add(x);
                case "c":
                    if (n == 1 && x[0] <= 10) {
                        man = x[0];
                        return true;
                    }
                    return false;
                case "p":
                    if (n == 2 && x[0] <= 99 && x[1] <= 10) {
                        pain = x;
                        return true;
                    }
                    return false;
                default:
                    return false;
            }
        }
    }

    private static boolean in(int x, int least, int most) {
        return least <= x && x <= most;
    }

    private boolean sort(int s) {
        return in(s, 0, sorts.size() - 1);
    }

    private boolean ask(int a) {
        return in(a, 0, asks.size() - 1);
    }

    private static BigInteger big(long x) {
        return BigInteger.valueOf(x);
    }

    int write(int n, long v) {
        if (!in(n, 1, 8)) return -1;
        if (text.length() + n > 400) return -3;
        byte[] bytes = big(v).toByteArray();
        for (int i = n - 1; i >= 0; i--) {
            int place = bytes.length - 1 - i;
            text += (char) ((place >= 0 ? bytes[place] : v < 0 ? -1 : 0) & 255);
        }
        return text.length();
    }

    int wipe() {
        int was = text.length();
        text = "";
        return was;
    }

    int fault() {
        return new Read(text).fault;
    }

    int lay() {
        Read read = new Read(text);
        if (read.fault != -4 || read.sorts.isEmpty() || read.asks.isEmpty()) return -2;
        sorts = read.sorts;
        asks = read.asks;
        man = read.man;
        pain = read.pain;
        row = read.row;
        told = new ArrayList<>();
        kept.clear();
        return people();
    }

    private int people() {
        return sorts.stream().mapToInt(s -> s[0]).sum();
    }

    private static int cap(int x) {
        return Math.min(10, Math.max(0, x));
    }

    int does(int s, int a, int mode, int what) {
        if (!sort(s) || !ask(a) || !in(mode, 0, 3) || !in(what, 0, 2)) return -1;
        int[] who = sorts.get(s);
        int[] of = asks.get(a);
        int[] felt = {who[1] + of[1] - of[0], who[1] - of[0], 0, who[1] + of[1] - of[0]};
        int[] play = {who[2] + who[3] - of[2], who[2] - of[2], 10 - of[2], 0};
        int f = cap(felt[mode]);
        int p = cap(play[mode]);
        return what == 0 ? f : what == 1 ? p : 10 * f + (10 - f) * p;
    }

    int step(int a, int keep) {
        if (!ask(a) || !in(keep, 0, 1)) return -1;
        if (row.size() == 8) return -3;
        row.add(new int[] {a, keep});
        return row.size();
    }

    int noRow() {
        int had = row.size();
        row.clear();
        return had;
    }

    private BigInteger leftBy(List<int[]> steps, int s) {
        BigInteger left = big(sorts.get(s)[0]).multiply(big(1000000));
        for (int[] step : steps) {
            int d = does(s, step[0], 0, 2);
            left = left.multiply(big(step[1] == 1 ? 100 - d : d)).divide(big(100));
        }
        return left;
    }

    private BigInteger allLeft() {
        BigInteger sum = BigInteger.ZERO;
        for (int s = 0; s < sorts.size(); s++) sum = sum.add(leftBy(row, s));
        return sum;
    }

    int left(int s) {
        if (s != -1 && !sort(s)) return -1;
        return (s == -1 ? allLeft() : leftBy(row, s)).intValueExact();
    }

    int share(int s) {
        if (!sort(s)) return -1;
        if (allLeft().signum() == 0) return -4;
        return leftBy(row, s).multiply(big(100000)).divide(allLeft()).intValueExact();
    }

    int bent(int what) {
        if (!in(what, 0, 1)) return -1;
        BigInteger sum = BigInteger.ZERO;
        BigInteger all = what == 0 ? big(people()) : allLeft();
        for (int s = 0; s < sorts.size(); s++) {
            sum = sum.add((what == 0 ? big(sorts.get(s)[0]) : leftBy(row, s)).multiply(big(sorts.get(s)[1])));
        }
        return all.signum() == 0 ? -4 : sum.multiply(big(1000)).divide(all).intValueExact();
    }

    int odds(int c) {
        return in(c, 0, 12) ? oddsBy(row, c) : -1;
    }

    private int oddsBy(List<int[]> steps, int c) {
        long[] have = new long[14];
        have[0] = 1000000;
        for (int s = 0; s < sorts.size(); s++) {
            long each = leftBy(steps, s).longValueExact() / sorts.get(s)[0];
            for (int person = 0; person < sorts.get(s)[0]; person++) {
                long[] next = new long[14];
                for (int k = 0; k <= 12; k++) {
                    long part = have[k] * each / 1000000;
                    next[k + 1] += part;
                    next[k] += have[k] - part;
                }
                next[13] = 0;
                have = next;
            }
        }
        return (int) have[c];
    }

    int best(int n, int minutes, int c, int i) {
        if (!in(n, 1, 3) || !in(minutes, 0, 90) || !in(c, 0, 12) || !in(i, -1, n - 1)) return -1;
        List<List<int[]>> rows = new ArrayList<>();
        rows.add(List.of());
        for (int turn = 0; turn < n; turn++) {
            List<List<int[]>> longer = new ArrayList<>();
            for (List<int[]> start : rows) {
                for (int number = 0; number < 2 * asks.size(); number++) {
                    List<int[]> more = new ArrayList<>(start);
                    more.add(new int[] {number / 2, number % 2});
                    longer.add(more);
                }
            }
            rows = longer;
        }
        int most = -4;
        List<int[]> found = null;
        for (List<int[]> steps : rows) {
            if (steps.stream().mapToInt(step -> asks.get(step[0])[3]).sum() > minutes) continue;
            int odds = oddsBy(steps, c);
            if (odds > most) {
                most = odds;
                found = steps;
            }
        }
        return i == -1 || found == null ? most : 2 * found.get(i)[0] + found.get(i)[1];
    }

    /** A part of a fraction in lowest terms, -4 where its lower number is 0. */
    private static long part(BigInteger above, BigInteger below, int part) {
        if (below.signum() == 0) return -4;
        return (part == 0 ? above : below).divide(above.gcd(below)).longValueExact();
    }

    int felt(int a, int mode, int part) {
        if (!ask(a) || !in(mode, 0, 3) || !in(part, 0, 1)) return -1;
        long above = 0;
        long below = 0;
        for (int s = 0; s < sorts.size(); s++) {
            above += sorts.get(s)[0] * 10L * does(s, a, mode, 0);
            below += (long) sorts.get(s)[0] * does(s, a, mode, 2);
        }
        return (int) part(big(above), big(below), part);
    }

    int words(int a) {
        if (!ask(a)) return -1;
        int sum = 0;
        for (int s = 0; s < sorts.size(); s++) sum += sorts.get(s)[0] * (does(s, a, 0, 2) - does(s, a, 1, 2));
        return sum / 100 + 1000;
    }

    int harm(int a, int what) {
        if (!ask(a) || !in(what, 0, 1)) return -1;
        int most = Integer.MIN_VALUE;
        int which = -1;
        for (int s = 0; s < sorts.size(); s++) {
            int more = does(s, a, 0, 2) - does(s, a, 1, 2);
            if (more > most) {
                most = more;
                which = s;
            }
        }
        return what == 0 ? most + 100 : which;
    }

    /** BETWEEN, and both together, of the scale of some asks. */
    private BigInteger[] scale(List<Integer> some) {
        BigInteger all = big(people());
        BigInteger sum = BigInteger.ZERO;
        BigInteger squares = BigInteger.ZERO;
        BigInteger inside = BigInteger.ZERO;
        for (int s = 0; s < sorts.size(); s++) {
            BigInteger n = big(sorts.get(s)[0]);
            long m = 0;
            long v = 0;
            for (int a : some) {
                int d = does(s, a, 0, 2);
                m += d;
                v += d * (100 - d);
            }
            sum = sum.add(n.multiply(big(m)));
            squares = squares.add(n.multiply(big(m)).multiply(big(m)));
            inside = inside.add(n.multiply(big(v)));
        }
        BigInteger between = all.multiply(squares).subtract(sum.multiply(sum));
        return new BigInteger[] {between, between.add(all.multiply(inside))};
    }

    private List<Integer> asksBut(int without) {
        List<Integer> some = new ArrayList<>();
        for (int a = 0; a < asks.size(); a++) if (a != without) some.add(a);
        return some;
    }

    long people(int part) {
        if (!in(part, 0, 1)) return -1;
        BigInteger[] scale = scale(asksBut(-1));
        return part(scale[0], scale[1], part);
    }

    int tells() {
        if (asks.size() < 2) return -4;
        int least = -1;
        BigInteger[] of = null;
        for (int a = 0; a < asks.size(); a++) {
            BigInteger[] scale = scale(asksBut(a));
            if (scale[1].signum() == 0) scale = new BigInteger[] {BigInteger.ZERO, BigInteger.ONE};
            if (of == null || scale[0].multiply(of[1]).compareTo(of[0].multiply(scale[1])) < 0) {
                least = a;
                of = scale;
            }
        }
        return least;
    }

    int relief(int s, int a, int what) {
        if (!sort(s) || !ask(a) || !in(what, 0, 1)) return -1;
        return what == 0 ? pain[0] * does(s, a, 0, 0) / 20 : pain[0] * pain[1] / 10;
    }

    int worth(int a, int q) {
        if (!ask(a) || !in(q, 0, 99)) return -1;
        int bits = 0;
        for (int s = 0; s < sorts.size(); s++) if (relief(s, a, 0) >= relief(s, a, 1) + q) bits += 1 << s;
        return bits;
    }

    int tell(int s, int a, int n, int d) {
        if (!sort(s) || !ask(a) || !in(n, 1, 4) || !in(d, 0, n)) return -1;
        if (told.size() == 3) return -3;
        told.add(new int[] {s, a, n, d});
        return told.size();
    }

    int forget() {
        int were = told.size();
        told.clear();
        return were;
    }

    private static BigInteger often(int d, int n) {
        int[][] triangle = {{1}, {1, 1}, {1, 2, 1}, {1, 3, 3, 1}, {1, 4, 6, 4, 1}};
        return big(triangle[n][d]);
    }

    long man(int part) {
        if (!in(part, 0, 1)) return -1;
        BigInteger with = big(man);
        BigInteger without = big(10 - man);
        for (int[] night : told) {
            int n = night[2];
            int d = night[3];
            int p = does(night[0], night[1], 0, 2) / 10;
            without = without.multiply(often(d, n)).multiply(big(p).pow(d)).multiply(big(10 - p).pow(n - d));
            with = d == 0 ? BigInteger.ZERO
                : with.multiply(often(d - 1, n - 1)).multiply(big(p).pow(d - 1)).multiply(big(10 - p).pow(n - d)).multiply(big(10));
        }
        return part(with, with.add(without), part);
    }

    /** Who is there in the end, and behind it: how many played at the last step, steps to six. */
    private List<Integer> nightOf(int z) {
        List<Integer> who = new ArrayList<>();
        List<Integer> sortOf = new ArrayList<>();
        for (int s = 0; s < sorts.size(); s++) {
            for (int j = 0; j < sorts.get(s)[0]; j++) {
                who.add(who.size());
                sortOf.add(s);
            }
        }
        List<Integer> players = new ArrayList<>();
        int six = who.size() <= 6 ? 0 : -4;
        for (int t = 0; t < row.size(); t++) {
            boolean follow = !who.isEmpty() && players.contains(who.get(0));
            players = new ArrayList<>();
            List<Integer> stay = new ArrayList<>();
            for (int i : who) {
                int f = does(sortOf.get(i), row.get(t)[0], 0, 0);
                int p = does(sortOf.get(i), row.get(t)[0], 0, 1);
                if (follow) p = Math.min(10, p + 1);
                BigInteger x = big(7919).multiply(big(z)).add(big(6151L * i)).add(big(3571L * t)).add(BigInteger.ONE);
                int draw = x.multiply(x).mod(big(65521)).mod(big(100)).intValueExact();
                String how = draw < 10 * f ? "felt" : draw < 10 * f + (10 - f) * p ? "played" : "not";
                if (how.equals("not") == (row.get(t)[1] == 1)) stay.add(i);
                if (how.equals("played")) players.add(i);
            }
            who = stay;
            if (six == -4 && who.size() <= 6) six = t + 1;
        }
        players.retainAll(who);
        List<Integer> answer = new ArrayList<>(who);
        answer.add(players.size());
        answer.add(six);
        return answer;
    }

    int night(int z, int what) {
        if (!in(z, 0, 9999) || !in(what, 0, 2)) return -1;
        List<Integer> answer = nightOf(z);
        int there = answer.size() - 2;
        return what == 0 ? there : answer.get(there + what - 1);
    }

    int one(int z, int i) {
        if (!in(z, 0, 9999) || i < 0) return -1;
        List<Integer> answer = nightOf(z);
        return i < answer.size() - 2 ? answer.get(i) : -4;
    }

    int nights(int z, int c) {
        if (!in(z, 0, 9999) || !in(c, 0, 120)) return -1;
        int such = 0;
        for (int later = 0; later < 10; later++) if (night((z + later) % 10000, 0) == c) such++;
        return such;
    }

    int keep() {
        if (kept.size() == 2) return -3;
        kept.add(List.of(new ArrayList<>(row), new ArrayList<>(told)));
        return kept.size();
    }

    int back() {
        if (kept.isEmpty()) return -2;
        List<List<int[]>> last = kept.remove(kept.size() - 1);
        row = last.get(0);
        told = last.get(1);
        return kept.size();
    }

    int count(int what) {
        int[] counts = {sorts.size(), asks.size(), people(), row.size(), text.length(), told.size(), kept.size()};
        return in(what, 0, 6) ? counts[what] : -1;
    }
}
