import java.math.BigInteger;
import java.util.ArrayDeque;
import java.util.ArrayList;
import java.util.Comparator;
import java.util.Deque;
import java.util.List;
import java.util.regex.Matcher;
import java.util.regex.Pattern;

/** The document once more, as plainly as can be and without care for speed, to hold the class against. */
final class Model {
    private static final int BAD = -1, NO = -2, FULL = -3, NONE = -4;
    private static final Pattern ITEM = Pattern.compile("([pdhc])(\\d\\d?(?:,\\d\\d?)*);");

    /** What a text tells. */
    private static final class Told {
        final List<int[]> people = new ArrayList<>();
        final List<int[]> deeds = new ArrayList<>();
        final int[][] plan = new int[6][7];
        int price = 1;
        int fault = NONE;
    }

    /** How things stand. */
    private static final class Now {
        int[][] has;
        int[] coins;
        int[] worth;
        int days;

        Now copy() {
            Now other = new Now();
            other.has = new int[has.length][];
            for (int i = 0; i < has.length; i++) {
                other.has[i] = has[i].clone();
            }
            other.coins = coins.clone();
            other.worth = worth.clone();
            other.days = days;
            return other;
        }
    }

    private final StringBuilder text = new StringBuilder();
    private final Deque<Now> undone = new ArrayDeque<>();
    private final Deque<Now> kept = new ArrayDeque<>();
    private final List<int[]> sights = new ArrayList<>();
    private Told town;
    private Now now;

    Model() {
        text.append("p0,3,2,4;p1,4,1,2;p2,2,2,6;p3,1,5,0;d1,0,0,2;d0,1,1,3;d2,0,1,5;"
                + "h0,0,2;h0,2,1;h1,1,0;h2,0,1;h2,3,1;h3,4,1;c2;");
        lay();
        text.setLength(0);
    }

    private static boolean in(int n, int low, int high) {
        return low <= n && n <= high;
    }

    private boolean noPerson(int i) {
        return !in(i, 0, town.people.size() - 1);
    }

    private boolean noDeed(int k) {
        return !in(k, 0, town.deeds.size() - 1);
    }

    private static Told read(String text) {
        Told told = new Told();
        for (int[] row : told.plan) {
            java.util.Arrays.fill(row, NONE);
        }
        Matcher item = ITEM.matcher(text);
        int at = 0;
        while (at < text.length()) {
            item.region(at, text.length());
            if (!item.lookingAt() || !accept(told, item.group(1), item.group(2).split(","))) {
                told.fault = at;
                return told;
            }
            at = item.end();
        }
        return told;
    }

    private static boolean accept(Told told, String letter, String[] parts) {
        int[] n = new int[parts.length];
        for (int i = 0; i < n.length; i++) {
            n[i] = Integer.parseInt(parts[i]);
        }
        if (letter.equals("p")) {
            return n.length == 4 && n[0] <= 4 && n[1] <= 9 && n[2] <= 9 && n[3] <= 9
                    && told.people.size() < 6 && told.people.add(n);
        }
        if (letter.equals("d")) {
            return n.length == 4 && n[0] <= 4 && n[1] <= 4 && n[2] <= 4 && n[3] <= 9
                    && n[0] + n[1] + n[2] > 0 && told.deeds.size() < 6 && told.deeds.add(n);
        }
        if (letter.equals("h")) {
            if (n.length != 3 || n[0] >= told.people.size() || n[1] > 6 || n[2] >= told.deeds.size()) {
                return false;
            }
            told.plan[n[0]][n[1]] = n[2];
            return true;
        }
        told.price = n[0];
        return n.length == 1 && n[0] <= 9;
    }

    int write(int letter) {
        if (!in(letter, 32, 126)) return BAD;
        if (text.length() == 200) return FULL;
        return text.append((char) letter).length();
    }

    int wipe() {
        int was = text.length();
        text.setLength(0);
        return was;
    }

    int fault() {
        return read(text.toString()).fault;
    }

    int lay() {
        Told told = read(text.toString());
        if (told.fault != NONE || told.people.isEmpty()) return NO;
        town = told;
        now = new Now();
        int n = told.people.size();
        now.has = new int[n][3];
        now.coins = new int[n];
        now.worth = new int[n];
        for (int i = 0; i < n; i++) {
            for (int s = 0; s < 3; s++) now.has[i][s] = told.people.get(i)[s + 1];
        }
        undone.clear();
        kept.clear();
        sights.clear();
        return n;
    }

    private static int hue(int[] has) {
        return (has[0] > 0 ? 1 : 0) + (has[1] > 0 ? 2 : 0) + (has[2] > 0 ? 4 : 0);
    }

    private static int sum(int[] row) {
        return row[0] + row[1] + row[2];
    }

    private int kind(int i) {
        return town.people.get(i)[0];
    }

    private int[] own(int i, int k) {
        int[] deed = town.deeds.get(k);
        int[] cost = {deed[0], deed[1], deed[2]};
        if (kind(i) == 3 && sum(cost) > 1) {
            cost[cost[0] > 0 ? 0 : cost[1] > 0 ? 1 : 2]--;
        }
        return cost;
    }

    /** What is given for a DEED, or null. */
    private int[] given(int i, int k, int[] has) {
        int[] cost = own(i, k);
        if (has[0] >= cost[0] && has[1] >= cost[1] && has[2] >= cost[2]) return cost;
        if (kind(i) != 4) return null;
        for (int s = 0; s < 3; s++) {
            int a = (s + 1) % 3;
            int b = (s + 2) % 3;
            if (has[s] == cost[s] - 1 && has[a] >= cost[a] && has[b] >= cost[b]) {
                int low = Math.min(a, b);
                int high = Math.max(a, b);
                int from = has[high] - cost[high] > has[low] - cost[low] ? high : low;
                if (has[from] - cost[from] < 2) return null;
                cost[s] -= 1;
                cost[from] += 2;
                return cost;
            }
        }
        return null;
    }

    /** Does a DEED: what was given, or null. */
    private int[] does(Now at, int i, int k) {
        int[] cost = given(i, k, at.has[i]);
        if (cost == null) return null;
        for (int s = 0; s < 3; s++) at.has[i][s] -= cost[s];
        at.worth[i] += town.deeds.get(k)[3];
        return cost;
    }

    private void step2(Now at) {
        for (int i = 0; i < at.has.length; i++) {
            if (kind(i) == 2) at.has[i][2] = Math.max(0, at.has[i][2] - 1);
        }
    }

    private void step3(Now at) {
        if (at.days % 7 == 6) {
            for (int i = 0; i < at.has.length; i++) {
                for (int s = 0; s < 3; s++) {
                    int ration = town.people.get(i)[s + 1];
                    at.has[i][s] = kind(i) == 1 ? Math.min(99, at.has[i][s] + ration) : ration;
                }
            }
        }
        at.days++;
    }

    private void step1(Now at) {
        for (int i = 0; i < at.has.length; i++) {
            int k = town.plan[i][at.days % 7];
            if (k != NONE) does(at, i, k);
        }
    }

    private Now after(int n) {
        Now at = now.copy();
        for (int d = 0; d < n; d++) {
            step1(at);
            step2(at);
            step3(at);
        }
        return at;
    }

    private void remember() {
        undone.addLast(now.copy());
        if (undone.size() > 8) undone.removeFirst();
    }

    int person(int i, int what) {
        if (noPerson(i) || !in(what, 0, 6)) return BAD;
        int[] h = now.has[i];
        return new int[] {kind(i), h[0], h[1], h[2], hue(h), now.coins[i], now.worth[i]}[what];
    }

    int deed(int k, int what) {
        return noDeed(k) || !in(what, 0, 3) ? BAD : town.deeds.get(k)[what];
    }

    int told(int i, int day) {
        return noPerson(i) || !in(day, 0, 6) ? BAD : town.plan[i][day];
    }

    int can(int i, int k) {
        if (noPerson(i) || noDeed(k)) return BAD;
        return given(i, k, now.has[i]) != null ? 1 : 0;
    }

    int pass(int n) {
        if (!in(n, 1, 30)) return BAD;
        remember();
        now = after(n);
        return now.days % 7;
    }

    int act(int i, int k) {
        if (noPerson(i) || noDeed(k)) return BAD;
        if (given(i, k, now.has[i]) == null) return NO;
        remember();
        return sum(does(now, i, k));
    }

    int lend(int i, int j, int sort, int n) {
        if (noPerson(i) || noPerson(j) || i == j || !in(sort, 0, 2) || !in(n, 1, 99)) return BAD;
        if (now.has[i][sort] < n) return NO;
        if (now.has[j][sort] + n > 99) return FULL;
        remember();
        now.has[i][sort] -= n;
        return now.has[j][sort] += n;
    }

    int sell(int i, int sort, int n) {
        if (noPerson(i) || !in(sort, 0, 2) || !in(n, 1, 99)) return BAD;
        if (now.has[i][sort] < n) return NO;
        remember();
        now.has[i][sort] -= n;
        return now.coins[i] += n * town.price;
    }

    int levy(int sort, int n) {
        if (!in(sort, 0, 2) || !in(n, 1, 99)) return BAD;
        remember();
        for (int taken = 0; taken < n; taken++) {
            int most = 0;
            for (int[] has : now.has) most = Math.max(most, has[sort]);
            if (most == 0) return taken;
            for (int[] has : now.has) {
                if (has[sort] == most) {
                    has[sort]--;
                    break;
                }
            }
        }
        return n;
    }

    int undo() {
        if (undone.isEmpty()) return NO;
        now = undone.removeLast();
        return undone.size();
    }

    int behind(int n, int i, int what) {
        if (!in(n, 0, 60) || noPerson(i) || !in(what, 0, 4)) return BAD;
        Now at = after(n);
        int[] h = at.has[i];
        return new int[] {h[0], h[1], h[2], hue(h), at.worth[i] - now.worth[i]}[what];
    }

    int grey(int what) {
        if (!in(what, 0, 1)) return BAD;
        for (int day = 1; day <= 60; day++) {
            Now at = after(day - 1);
            step1(at);
            step2(at);
            for (int i = 0; i < at.has.length; i++) {
                if (sum(at.has[i]) == 0) return what == 0 ? i : day;
            }
        }
        return NONE;
    }

    int best(int i, int k) {
        if (noPerson(i) || k != -1 && noDeed(k)) return BAD;
        int deeds = town.deeds.size();
        int[] best = null;
        int all = (int) Math.pow(6, deeds);
        for (int code = 0; code < all; code++) {
            // worth, how few, how often each: the way is better whose row is greater
            int[] way = new int[deeds + 2];
            int rest = code;
            for (int d = 0; d < deeds; d++) {
                way[d + 2] = rest % 6;
                rest /= 6;
            }
            if (walk(i, way) && (best == null || java.util.Arrays.compare(way, best) > 0)) best = way;
        }
        return k == -1 ? best[0] : best[k + 2];
    }

    private boolean walk(int i, int[] way) {
        int[] has = now.has[i].clone();
        for (int d = 0; d < way.length - 2; d++) {
            for (int n = 0; n < way[d + 2]; n++) {
                int[] cost = given(i, d, has);
                if (cost == null) return false;
                for (int s = 0; s < 3; s++) has[s] -= cost[s];
                way[0] += town.deeds.get(d)[3];
                way[1]--;
            }
        }
        return true;
    }

    int lending() {
        int moves = 0;
        for (int s = 0; s < 3; s++) {
            int lack = 0;
            int spare = 0;
            for (int i = 0; i < now.has.length; i++) {
                int k = town.plan[i][now.days % 7];
                int need = k == NONE ? 0 : own(i, k)[s];
                if (now.has[i][s] < need) lack += need - now.has[i][s];
                else spare += now.has[i][s] - need;
            }
            if (lack > spare) return NONE;
            moves += lack;
        }
        return moves;
    }

    int heap(int red, int yellow, int blue) {
        int[] want = {red, yellow, blue};
        for (int n : want) if (!in(n, 0, 99)) return BAD;
        List<Integer> sets = new ArrayList<>();
        for (int set = 0; set < 1 << now.has.length; set++) sets.add(set);
        sets.sort(Comparator.comparingInt((Integer set) -> Integer.bitCount(set)).thenComparingInt(set -> set));
        for (int set : sets) {
            int[] sum = new int[3];
            for (int i = 0; i < now.has.length; i++) {
                for (int s = 0; s < 3 && (set & 1 << i) != 0; s++) sum[s] += now.has[i][s];
            }
            if (sum[0] >= red && sum[1] >= yellow && sum[2] >= blue) return set;
        }
        return NONE;
    }

    int seen(int i, int day, int hue) {
        if (noPerson(i) || !in(day, 1, 4) || !in(hue, 0, 7)) return BAD;
        if (sights.size() == 7) return FULL;
        sights.add(new int[] {i, day, hue});
        return sights.size();
    }

    int forget() {
        int were = sights.size();
        sights.clear();
        return were;
    }

    int spent(int i, int k) {
        if (noPerson(i)) return BAD;
        int last = 0;
        for (int[] sight : sights) if (sight[0] == i) last = Math.max(last, sight[1]);
        if (!in(k, 0, last)) return BAD;
        int base = town.deeds.size() + 1;
        int ways = 0;
        int[] first = null;
        for (int code = 0; code < Math.pow(base, last); code++) {
            int[] choice = new int[last];
            int rest = code;
            for (int d = last - 1; d >= 0; d--) {
                choice[d] = rest % base - 1;
                rest /= base;
            }
            if (fits(i, choice)) {
                ways++;
                if (first == null) first = choice;
            }
        }
        if (k == 0) return ways;
        return first == null || first[k - 1] < 0 ? NONE : first[k - 1];
    }

    private boolean fits(int i, int[] choice) {
        Now at = now.copy();
        for (int d = 0; d < choice.length; d++) {
            if (choice[d] >= 0 && does(at, i, choice[d]) == null) return false;
            step2(at);
            for (int[] sight : sights) {
                if (sight[0] == i && sight[1] == d + 1 && sight[2] != hue(at.has[i])) return false;
            }
            step3(at);
        }
        return true;
    }

    int saved(int i, int sort, int n) {
        if (noPerson(i) || !in(sort, 0, 2) || !in(n, 0, 99)) return BAD;
        Now at = now.copy();
        if (at.has[i][sort] >= n) return 0;
        for (int monday = 1; monday <= 50; monday++) {
            do {
                step2(at);
                step3(at);
            } while (at.days % 7 != 0);
            if (at.has[i][sort] >= n) return monday;
        }
        return NONE;
    }

    int lasts(int i, int k, int x, int n, int part) {
        if (noPerson(i) || noDeed(k) || !in(x, 0, 10) || !in(n, 0, 7) || !in(part, 0, 1)) return BAD;
        BigInteger above = BigInteger.ZERO;
        for (int wants = 0; wants < 1 << n; wants++) {
            BigInteger weight = BigInteger.ONE;
            Now at = now.copy();
            for (int time = 0; time < n; time++) {
                boolean wanted = (wants >> time & 1) == 1;
                weight = weight.multiply(BigInteger.valueOf(wanted ? x : 10 - x));
                if (wanted && does(at, i, k) == null) weight = BigInteger.ZERO;
            }
            above = above.add(weight);
        }
        BigInteger below = BigInteger.TEN.pow(n);
        return (part == 0 ? above : below).divide(above.gcd(below)).intValueExact();
    }

    int year(int z, int n, int what) {
        if (!in(z, 0, 9999) || !in(n, 1, 60) || !in(what, 0, 1)) return BAD;
        Now at = now.copy();
        int greys = 0;
        int worth = 0;
        for (int k = 0; k < n; k++) {
            for (int i = 0; i < at.has.length; i++) {
                BigInteger x = BigInteger.valueOf(7919).multiply(BigInteger.valueOf(z))
                        .add(BigInteger.valueOf(6151 * k + 331 * i + 1));
                int draw = x.multiply(x).mod(BigInteger.valueOf(65521)).intValue() / 8;
                int deed = draw % (town.deeds.size() + 1);
                if (deed < town.deeds.size() && does(at, i, deed) != null) worth += town.deeds.get(deed)[3];
            }
            step2(at);
            for (int[] has : at.has) if (hue(has) == 0) greys++;
            step3(at);
        }
        return what == 0 ? greys : worth;
    }

    int keep() {
        if (kept.size() == 2) return FULL;
        kept.addLast(now.copy());
        return kept.size();
    }

    int back() {
        if (kept.isEmpty()) return NO;
        now = kept.removeLast();
        undone.clear();
        return kept.size();
    }

    int count(int what) {
        if (!in(what, 0, 9)) return BAD;
        int all = 0;
        int greys = 0;
        for (int[] has : now.has) {
            all += sum(has);
            greys += sum(has) == 0 ? 1 : 0;
        }
        return new int[] {now.has.length, town.deeds.size(), now.days % 7, now.days, all, greys,
            sights.size(), undone.size(), kept.size(), text.length()}[what];
    }
}
