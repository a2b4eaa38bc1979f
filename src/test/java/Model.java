import java.math.BigInteger;
import java.util.ArrayDeque;
import java.util.ArrayList;
import java.util.Deque;
import java.util.HashSet;
import java.util.List;
import java.util.Set;

/** The document told once more, in the slowest and plainest way, to hold the class against. */
final class Model {
    static final int UNKNOWN = -1, OUTSIDE = -2, STATE = -3, FULL = -4, NONE = -9;

    static final class Stamp {
        int age, health, kind, on = NONE;
        int span() { return 60 + 3 * health + (kind == 1 ? 10 : 0) + (kind == 2 ? 15 : 0); }
        boolean alive() { return age < span(); }
        void older(int n) { if (kind != 3) age += n; }
        int rate() {
            if (kind == 3) return 0;
            if (kind == 1) return 1;
            return Math.min(9, 2 + age / (kind == 2 ? 10 : 20));
        }
    }

    static final class Mail {
        int left, cost, fate;
    }

    static final class World {
        final List<Stamp> stamps = new ArrayList<>();
        final List<Mail> letters = new ArrayList<>();
        final Set<Set<Integer>> joined = new HashSet<>();
        boolean damp;
        int week;

        World copy() {
            World w = new World();
            for (Stamp s : stamps) {
                Stamp t = new Stamp();
                t.age = s.age; t.health = s.health; t.kind = s.kind; t.on = s.on;
                w.stamps.add(t);
            }
            for (Mail l : letters) {
                Mail m = new Mail();
                m.left = l.left; m.cost = l.cost; m.fate = l.fate;
                w.letters.add(m);
            }
            w.joined.addAll(joined);
            w.damp = damp;
            w.week = week;
            return w;
        }

        boolean stamp(int s) { return 0 <= s && s < stamps.size(); }
        boolean letter(int l) { return 0 <= l && l < letters.size(); }
        boolean joined(int a, int b) { return a != b && joined.contains(Set.of(a, b)); }

        boolean widow(int s) {
            if (!stamps.get(s).alive()) return false;
            for (int t = 0; t < stamps.size(); t++) if (joined(s, t) && !stamps.get(t).alive()) return true;
            return false;
        }

        void goWeek() {
            for (Stamp s : stamps) if (s.alive()) s.older(damp ? 2 : 1);
            List<Stamp> widows = new ArrayList<>();
            for (int s = 0; s < stamps.size(); s++) if (widow(s)) widows.add(stamps.get(s));
            for (Stamp s : widows) s.older(2);
            for (int l = 0; l < letters.size(); l++) {
                Mail m = letters.get(l);
                if (m.fate != 1) continue;
                m.left--;
                if (m.left > 0) continue;
                m.fate = 3;
                for (Stamp s : stamps) if (s.on == l && s.alive()) m.fate = 2;
            }
            week++;
        }

        int good(int l) {
            int sum = 0;
            for (Stamp s : stamps) if (s.on == l && s.alive()) sum += s.rate();
            return sum;
        }

        int doStick(int s, int l) {
            if (!stamp(s) || !letter(l)) return UNKNOWN;
            Stamp st = stamps.get(s);
            if (!st.alive() || st.on != NONE || letters.get(l).fate != 0) return STATE;
            st.on = l;
            if (st.health > 0) st.health--;
            return Integer.bitCount(onBits(l));
        }

        int doSend(int l) {
            if (!letter(l)) return UNKNOWN;
            Mail m = letters.get(l);
            if (m.fate != 0 || good(l) < m.cost) return STATE;
            m.fate = 1;
            return m.left;
        }

        int doPart(int a, int b) {
            if (!stamp(a) || !stamp(b)) return UNKNOWN;
            if (!joined(a, b)) return STATE;
            joined.remove(Set.of(a, b));
            stamps.get(a).older(1);
            stamps.get(b).older(1);
            return Integer.bitCount(joinedBits(a));
        }

        int onBits(int l) {
            int bits = 0;
            for (int s = 0; s < stamps.size(); s++) if (stamps.get(s).on == l) bits += 1 << s;
            return bits;
        }

        int joinedBits(int s) {
            int bits = 0;
            for (int t = 0; t < stamps.size(); t++) if (joined(s, t)) bits += 1 << t;
            return bits;
        }

        int aliveCount() {
            int n = 0;
            for (Stamp s : stamps) if (s.alive()) n++;
            return n;
        }
    }

    private final StringBuilder text = new StringBuilder();
    private World now = new World();
    private final Deque<World> acts = new ArrayDeque<>();
    private final World[] slots = new World[2];
    private final List<int[]> seen = new ArrayList<>();
    private long seed;

    int write(int c) {
        if (c < 0 || c > 255) return OUTSIDE;
        if (text.length() == 48) return FULL;
        text.append((char) c);
        return text.length();
    }

    int wipe() {
        int was = text.length();
        text.setLength(0);
        return was;
    }

    /** The album of a text, or null if it is none. */
    static World albumOf(String text) {
        if (!text.matches("A(S[0-9][0-9][0-3]|J[0-9][0-9]|L[1-9][1-9])*")) return null;
        World w = new World();
        for (int i = 1; i < text.length(); i += text.charAt(i) == 'S' ? 4 : 3) {
            int a = text.charAt(i + 1) - '0';
            int b = text.charAt(i + 2) - '0';
            if (text.charAt(i) == 'S') {
                Stamp s = new Stamp();
                s.age = 10 * a;
                s.health = b;
                s.kind = text.charAt(i + 3) - '0';
                w.stamps.add(s);
            } else if (text.charAt(i) == 'L') {
                Mail m = new Mail();
                m.left = a;
                m.cost = b;
                w.letters.add(m);
            } else if (!w.stamp(a) || !w.stamp(b) || a == b || !w.joined.add(Set.of(a, b))) {
                return null;
            }
        }
        return w.stamps.size() > 5 || w.letters.size() > 4 ? null : w;
    }

    /** A text that can become an album can do so by three signs more at most. */
    private static boolean hopeful(String text) {
        if (albumOf(text) != null || text.isEmpty()) return true;
        for (int n = 1, many = 10; n <= 3; n++, many *= 10) {
            for (int figures = 0; figures < many; figures++) {
                if (albumOf(text + String.valueOf(many + figures).substring(1)) != null) return true;
            }
        }
        return false;
    }

    int fault() {
        if (albumOf(text.toString()) != null) return NONE;
        for (int i = 1; i <= text.length(); i++) if (!hopeful(text.substring(0, i))) return i - 1;
        return text.length();
    }

    int album() {
        World w = albumOf(text.toString());
        if (w == null) return STATE;
        now = w;
        acts.clear();
        slots[0] = null;
        slots[1] = null;
        return 10 * w.stamps.size() + w.letters.size();
    }

    int stamp(int s, int what) {
        if (!now.stamp(s)) return UNKNOWN;
        if (what < 0 || what > 7) return OUTSIDE;
        Stamp st = now.stamps.get(s);
        return new int[] {st.age, st.health, st.kind, st.span(), st.rate(), st.alive() ? 1 : 0, st.on,
            now.joinedBits(s)}[what];
    }

    int letter(int l, int what) {
        if (!now.letter(l)) return UNKNOWN;
        if (what < 0 || what > 4) return OUTSIDE;
        Mail m = now.letters.get(l);
        return new int[] {m.left, m.cost, now.onBits(l), now.good(l), m.fate}[what];
    }

    /** An act is done on a copy; the world ahead of it goes into the row only if it could be done. */
    private int acted(World next, int answer) {
        if (answer < 0) return answer;
        acts.addLast(now);
        if (acts.size() > 14) acts.removeFirst();
        now = next;
        return answer;
    }

    int week() {
        World next = now.copy();
        next.goWeek();
        return acted(next, next.aliveCount());
    }

    int stick(int s, int l) {
        World next = now.copy();
        return acted(next, next.doStick(s, l));
    }

    int send(int l) {
        World next = now.copy();
        return acted(next, next.doSend(l));
    }

    int part(int a, int b) {
        World next = now.copy();
        return acted(next, next.doPart(a, b));
    }

    int damp() {
        World next = now.copy();
        next.damp = !next.damp;
        return acted(next, next.damp ? 1 : 0);
    }

    int undo() {
        if (acts.isEmpty()) return STATE;
        now = acts.removeLast();
        return acts.size();
    }

    int lives(int s) {
        if (!now.stamp(s)) return UNKNOWN;
        World w = now.copy();
        int weeks = 0;
        while (weeks < 99 && w.stamps.get(s).alive()) {
            w.goWeek();
            weeks++;
        }
        return w.stamps.get(s).alive() ? NONE : weeks;
    }

    int comes(int l, int bits) {
        if (!now.letter(l)) return UNKNOWN;
        if (bits < 0 || bits >= 1 << now.stamps.size()) return OUTSIDE;
        World w = now.copy();
        if (w.letters.get(l).fate != 0) return STATE;
        for (int s = 0; s < w.stamps.size(); s++) {
            if ((bits & 1 << s) != 0 && w.doStick(s, l) < 0) return STATE;
        }
        if (w.doSend(l) < 0) return NONE;
        while (w.letters.get(l).fate == 1) w.goWeek();
        return w.letters.get(l).fate == 2 ? 1 : 0;
    }

    int fewest(int l) {
        if (!now.letter(l)) return UNKNOWN;
        if (now.letters.get(l).fate != 0) return STATE;
        int best = NONE;
        for (int bits = (1 << now.stamps.size()) - 1; bits >= 0; bits--) {
            boolean fewer = best == NONE || Integer.bitCount(bits) <= Integer.bitCount(best);
            if (fewer && comes(l, bits) == 1) best = bits;
        }
        return best;
    }

    int block(int s) {
        if (!now.stamp(s)) return UNKNOWN;
        return blockFrom(s, 0);
    }

    private int blockFrom(int s, int bits) {
        int found = bits | 1 << s;
        for (int t = 0; t < now.stamps.size(); t++) {
            if (now.joined(s, t) && (found & 1 << t) == 0) found = blockFrom(t, found);
        }
        return found;
    }

    int judge(int n, long row) {
        if (n < 1 || n > 4 || row < 0 || Long.toString(row).length() > 3 * n) return OUTSIDE;
        StringBuilder figures = new StringBuilder(Long.toString(row));
        while (figures.length() < 3 * n) figures.insert(0, '0');
        World w = now.copy();
        for (int i = 0; i < n; i++) {
            String doing = figures.substring(3 * i, 3 * i + 3);
            int b = doing.charAt(1) - '0';
            int c = doing.charAt(2) - '0';
            if (doing.equals("000")) w.goWeek();
            else if (doing.startsWith("1") && w.doStick(b, c) >= 0) continue;
            else if (doing.startsWith("20") && w.doSend(c) >= 0) continue;
            else if (doing.startsWith("3") && w.doPart(b, c) >= 0) continue;
            else return i;
        }
        return NONE;
    }

    int see(int s, int n, int alive) {
        if (!now.stamp(s)) return UNKNOWN;
        if (n < 0 || n > 99 || alive < 0 || alive > 1) return OUTSIDE;
        if (seen.size() == 6) return FULL;
        seen.add(new int[] {s, n, alive});
        return seen.size();
    }

    int unsee() {
        int was = seen.size();
        seen.clear();
        return was;
    }

    int bought(int s) {
        if (!now.stamp(s)) return UNKNOWN;
        int bits = 1023;
        for (int a = 0; a < 10; a++) {
            for (int[] one : seen) {
                Stamp st = new Stamp();
                st.age = 10 * a;
                st.health = now.stamps.get(s).health;
                st.kind = now.stamps.get(s).kind;
                st.older(one[1]);
                if (one[0] == s && st.alive() != (one[2] == 1)) bits &= ~(1 << a);
            }
        }
        return bits;
    }

    private int open(List<Integer> come) {
        int good = 0;
        for (int s : come) if (now.stamps.get(s).alive()) good += now.stamps.get(s).rate();
        int n = 0;
        for (Mail m : now.letters) if (m.fate == 0 && m.cost <= good) n++;
        return n;
    }

    /** Above and below of what the stamp adds, over all orders. */
    private int[] overOrders(int s, List<Integer> come) {
        if (come.contains(s)) {
            int more = open(come) - open(come.subList(0, come.size() - 1));
            int orders = 1;
            for (int i = 2; i <= now.stamps.size() - come.size(); i++) orders *= i;
            return new int[] {more * orders, orders};
        }
        int[] sum = {0, 0};
        for (int t = 0; t < now.stamps.size(); t++) {
            if (come.contains(t)) continue;
            List<Integer> next = new ArrayList<>(come);
            next.add(t);
            int[] part = overOrders(s, next);
            sum[0] += part[0];
            sum[1] += part[1];
        }
        return sum;
    }

    private static int told(BigInteger above, BigInteger below, boolean upper) {
        BigInteger g = above.gcd(below);
        return (upper ? above : below).divide(g).intValueExact();
    }

    int share(int s, boolean upper) {
        if (!now.stamp(s)) return UNKNOWN;
        int[] sum = overOrders(s, new ArrayList<>());
        return told(BigInteger.valueOf(sum[0]), BigInteger.valueOf(sum[1]), upper);
    }

    private int has(int l, int s, boolean takes, boolean otherTakes) {
        if (!takes) return 0;
        return now.stamps.get(s).rate() - now.letters.get(l).left / 3 - (otherTakes ? 3 : 0);
    }

    int rests(int one, int other, int s, int what) {
        if (!now.letter(one) || !now.letter(other) || !now.stamp(s)) return UNKNOWN;
        if (one == other || what < 0 || what > 1) return OUTSIDE;
        if (now.letters.get(one).fate != 0 || now.letters.get(other).fate != 0) return STATE;
        List<Integer> found = new ArrayList<>();
        for (int a = 0; a <= 1; a++) {
            for (int b = 0; b <= 1; b++) {
                boolean first = has(one, s, a == 1, b == 1) >= has(one, s, a == 0, b == 1);
                boolean second = has(other, s, b == 1, a == 1) >= has(other, s, b == 0, a == 1);
                if (first && second) found.add(10 * a + b);
            }
        }
        if (what == 0) return found.size();
        return found.isEmpty() ? NONE : found.get(0);
    }

    int born(int m, int x, boolean upper) {
        if (m < 0 || m > 9 || x < 0 || x > 10) return OUTSIDE;
        // Pair by pair: in how many of ten ways each, there are so many children.
        BigInteger[] ways = new BigInteger[11];
        for (int i = 0; i <= 10; i++) ways[i] = i == 0 ? BigInteger.ONE : BigInteger.ZERO;
        BigInteger all = BigInteger.ONE;
        for (Set<Integer> pair : now.joined) {
            boolean both = true;
            for (int s : pair) both &= now.stamps.get(s).alive();
            if (!both) continue;
            for (int i = 10; i >= 0; i--) {
                BigInteger less = i == 0 ? BigInteger.ZERO : ways[i - 1].multiply(BigInteger.valueOf(x));
                ways[i] = ways[i].multiply(BigInteger.valueOf(10 - x)).add(less);
            }
            all = all.multiply(BigInteger.TEN);
        }
        return told(ways[m], all, upper);
    }

    long seed(long v) {
        long was = seed;
        seed = v;
        return was;
    }

    int years(int m) {
        if (m < 1 || m > 30) return OUTSIDE;
        int sum = 0;
        World w = now.copy();
        for (int i = 0; i < m; i++) {
            BigInteger next = BigInteger.valueOf(seed).multiply(new BigInteger("6364136223846793005"))
                .add(new BigInteger("1442695040888963407")).mod(BigInteger.ONE.shiftLeft(64));
            seed = next.longValue();
            int weeks = next.shiftRight(33).mod(BigInteger.TEN).intValue();
            for (int k = 1; k < weeks; k++) w.goWeek();
            if (weeks % 2 == 1) w.damp = true;
            if (weeks > 0) w.goWeek();
            w.damp = now.damp;
            sum += w.aliveCount();
        }
        return sum;
    }

    int keep(int slot) {
        if (slot != 0 && slot != 1) return UNKNOWN;
        slots[slot] = now.copy();
        return now.week;
    }

    int again(int slot) {
        if (slot != 0 && slot != 1) return UNKNOWN;
        if (slots[slot] == null) return STATE;
        now = slots[slot].copy();
        acts.clear();
        return now.week;
    }

    int count(int what) {
        if (what < 0 || what > 10) return OUTSIDE;
        int alive = 0, widows = 0, come = 0, dead = 0;
        for (int s = 0; s < now.stamps.size(); s++) {
            alive += now.stamps.get(s).alive() ? 1 << s : 0;
            widows += now.widow(s) ? 1 << s : 0;
        }
        for (int l = 0; l < now.letters.size(); l++) {
            come += now.letters.get(l).fate == 2 ? 1 << l : 0;
            dead += now.letters.get(l).fate == 3 ? 1 << l : 0;
        }
        return new int[] {text.length(), now.stamps.size(), now.letters.size(), now.week, now.damp ? 1 : 0,
            alive, widows, come, dead, acts.size(), seen.size()}[what];
    }
}
