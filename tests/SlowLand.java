import java.math.BigInteger;
import java.util.ArrayList;
import java.util.HashMap;
import java.util.List;
import java.util.Map;

/**
 * The same promises once more, written for plainness alone: days one by one, texts as trees, sets by trying all.
 * RandomRunsTest holds LeaseLand against it.
 */
final class SlowLand {
    static final class H {
        H out;
        int floors, from, to, way, ended, person, since, amount, doubles, breach = -6;
        H fellWith;

        int until() {
            return way != 0 ? ended : to;
        }

        boolean inForce(int d) {
            return d >= from && d < until();
        }
    }

    static final class N {
        H giver;
        int kind, day, status, withdrawn;
    }

    static final class A {
        int kind, day;
        Node tree;
        int comparisons;
    }

    /** kind: '|', '&', '!' or a comparison 'c' with its fact, sign and number. */
    static final class Node {
        char kind, fact, sign;
        int number, index;
        final List<Node> parts = new ArrayList<>();

        Node(char kind) {
            this.kind = kind;
        }
    }

    final List<H> holdings = new ArrayList<>();
    final List<A> acts = new ArrayList<>();
    final List<N> notices = new ArrayList<>();
    final List<int[]> points = new ArrayList<>();
    final List<int[]> sales = new ArrayList<>();
    final List<int[]> lines = new ArrayList<>();
    final Map<Integer, Integer> homes = new HashMap<>();
    final int[] weights = {1, 1, 1, 1, 1, 1, 1, 1, 1, 1, 1, 1};
    final int[] values = new int[12];
    final StringBuilder signs = new StringBuilder();
    int now, yp = 100, defer = 50;

    H holding(int n) {
        return n < 0 || n >= holdings.size() ? null : holdings.get(n);
    }

    H leaseOnly(int n) {
        H h = holding(n);
        return h == null || h.out == null ? null : h;
    }

    static boolean person(int p) {
        return 0 <= p && p < 10;
    }

    static boolean floor(int f) {
        return 0 <= f && f < 12;
    }

    static boolean floorSet(int f) {
        return 1 <= f && f <= 4095;
    }

    static boolean day(int d) {
        return 0 <= d && d <= 73000;
    }

    // ---- 1

    int today(int d) {
        if (!day(d) || d < now) return -2;
        int old = now;
        now = d;
        return old;
    }

    int whole(int floors, int person) {
        if (!person(person)) return -1;
        if (!floorSet(floors)) return -2;
        if (holdings.size() >= 40) return -4;
        for (H h : holdings) if (h.out == null && (h.floors & floors) > 0) return -5;
        H w = new H();
        w.floors = floors;
        w.to = 73000;
        w.person = person;
        w.since = now;
        holdings.add(w);
        return holdings.size() - 1;
    }

    /** Days a and b (from, behind) that have one in common. */
    static boolean common(int a, int aBehind, int b, int bBehind) {
        if (aBehind <= a || bBehind <= b) return false;
        return !(aBehind <= b || bBehind <= a);
    }

    List<H> out(H of) {
        List<H> found = new ArrayList<>();
        for (H h : holdings) if (h.out == of) found.add(h);
        return found;
    }

    boolean wayBlocked(H self, H out, int floors, int from, int behind) {
        for (H h : out(out)) {
            if (h != self && (h.floors & floors) != 0 && common(h.from, h.until(), from, behind)) return true;
        }
        return false;
    }

    int grantRefusal(H o, int floors, int from, int to, int person) {
        if (o == null || !person(person)) return -1;
        if (!floorSet(floors) || from < now || to <= from || to > 73000) return -2;
        if (holdings.size() == 40) return -4;
        if ((o.floors | floors) != o.floors || from < o.from || to > o.until()) return -5;
        return 0;
    }

    H newLease(H o, int floors, int from, int to, int person) {
        H h = new H();
        h.out = o;
        h.floors = floors;
        h.from = from;
        h.to = to;
        h.person = person;
        h.since = from;
        holdings.add(h);
        return h;
    }

    int lease(int out, int floors, int from, int to, int person) {
        H o = holding(out);
        int no = grantRefusal(o, floors, from, to, person);
        if (no != 0) return no;
        if (wayBlocked(null, o, floors, from, to)) return -5;
        newLease(o, floors, from, to, person);
        return holdings.size() - 1;
    }

    int between(int out, int floors, int from, int to, int person) {
        H o = holding(out);
        int no = grantRefusal(o, floors, from, to, person);
        if (no != 0) return no;
        List<H> under = new ArrayList<>();
        for (H h : out(o)) {
            if ((h.floors & floors) == 0 || !common(h.from, h.until(), from, to)) continue;
            if ((h.floors & floors) != h.floors) return -5;
            // from TODAY on it has days from max(its from, TODAY) till ahead of UNTIL
            int begin = h.from < now ? now : h.from;
            if (begin < h.until() && (begin < from || h.until() > to)) return -5;
            under.add(h);
        }
        H b = newLease(o, floors, from, to, person);
        for (H h : under) h.out = b;
        return holdings.size() - 1;
    }

    int sell(int n, int person) {
        H h = holding(n);
        if (h == null || !person(person)) return -1;
        if (!h.inForce(now)) return -3;
        int old = h.person;
        h.person = person;
        h.since = now;
        return old;
    }

    int weightSum(int floors) {
        int sum = 0;
        for (int f = 0; f < 12; f++) if ((floors & 1 << f) != 0) sum += weights[f];
        return sum;
    }

    int part(int n, int floors, int person) {
        H h = leaseOnly(n);
        if (h == null || !person(person)) return -1;
        if (!floorSet(floors)) return -2;
        if (!h.inForce(now)) return -3;
        if (holdings.size() == 40) return -4;
        if ((h.floors | floors) != h.floors || h.floors == floors) return -5;
        for (H c : out(h)) {
            if (c.until() <= now) continue;
            int with = c.floors & floors;
            if (with != 0 && with != c.floors) return -5;
        }
        List<H> moving = new ArrayList<>();
        for (H c : out(h)) if (c.until() > now && (c.floors & floors) != 0) moving.add(c);
        H p = newLease(h.out, floors, h.from, h.to, person);
        p.since = now;
        p.doubles = h.doubles;
        p.amount = (int) ((long) h.amount * weightSum(floors) / weightSum(h.floors));
        h.amount = h.amount - p.amount;
        h.floors = h.floors - floors;
        for (H c : moving) c.out = p;
        return holdings.size() - 1;
    }

    void ends(H h, int way) {
        h.way = way;
        h.ended = now;
        if (h.from > now) h.ended = h.from;
    }

    int end(int n, int way) {
        H h = leaseOnly(n);
        if (h == null) return -1;
        if (way != 1 && way != 3) return -2;
        if (!h.inForce(now)) return -3;
        if (way == 3 && h.person != h.out.person) return -5;
        ends(h, way);
        int moved = 0;
        for (H c : out(h)) {
            if (c.until() > now) {
                c.out = h.out;
                moved++;
            }
        }
        return moved;
    }

    int about(int n, int what) {
        H h = holding(n);
        if (h == null) return -1;
        int[] all = {h.out == null ? -1 : holdings.indexOf(h.out), h.floors, h.from, h.to, h.until(), h.way, h.person,
            h.since, h.amount, h.doubles, h.breach, out(h).size()};
        return what < 0 || what > 11 ? -2 : all[what];
    }

    List<H> chainOf(int floor) {
        List<H> row = new ArrayList<>();
        H at = null;
        boolean more = true;
        while (more) {
            more = false;
            for (H h : out(at)) {
                if ((h.floors & 1 << floor) != 0 && h.inForce(now)) {
                    row.add(h);
                    at = h;
                    more = true;
                    break;
                }
            }
        }
        return row;
    }

    int chain(int floor, int i) {
        if (!floor(floor)) return -1;
        List<H> row = chainOf(floor);
        if (i == -1) return row.size();
        return i < 0 || i >= row.size() ? -6 : holdings.indexOf(row.get(i));
    }

    int live(int person, int floor) {
        if (!person(person) || floor < -1 || floor > 11) return -1;
        Integer old = floor == -1 ? homes.remove(person) : homes.put(person, floor);
        return old == null ? -6 : old;
    }

    // ---- 2

    int rent(int n, int amount, int doubles) {
        H h = leaseOnly(n);
        if (h == null) return -1;
        if (amount < 0 || amount > 100000 || doubles < 0 || doubles > 100) return -2;
        int old = h.amount;
        h.amount = amount;
        h.doubles = doubles;
        return old;
    }

    int rateAt(H h, int d) {
        if (!h.inForce(d)) return 0;
        int rate = h.amount;
        if (h.doubles == 0) return rate;
        int next = h.from + h.doubles * 365;
        for (int i = 0; i < 10 && d >= next; i++) {
            rate *= 2;
            next += h.doubles * 365;
        }
        return rate;
    }

    int rate(int n, int d) {
        H h = holding(n);
        if (h == null) return -1;
        return day(d) ? rateAt(h, d) : -2;
    }

    long owed(int n, int from, int to) {
        H h = holding(n);
        if (h == null) return LeaseLand.LOST - 1;
        if (!day(from) || !day(to) || from > to) return LeaseLand.LOST - 2;
        long sum = 0;
        for (int d = from; d < to; d++) sum += rateAt(h, d);
        return sum / 365;
    }

    int weight(int f, int w) {
        if (!floor(f)) return -1;
        if (w < 1 || w > 100) return -2;
        int old = weights[f];
        weights[f] = w;
        return old;
    }

    // ---- 3

    int say(int sign) {
        if (sign < 33 || sign > 126) return -2;
        if (signs.length() == 48) return -4;
        signs.append((char) sign);
        return signs.length();
    }

    int wipe() {
        int n = signs.length();
        signs.setLength(0);
        return n;
    }

    /** Reads from a text that is followed by a sign of its own: thrown is the place that can not be. */
    static final class Bad extends Exception {
        final int place;

        Bad(int place) {
            this.place = place;
        }
    }

    String read;
    int at, comparisons;

    char peek() {
        return at < read.length() ? read.charAt(at) : '~';
    }

    Node readText() throws Bad {
        Node node = new Node('|');
        node.parts.add(readTerm());
        while (peek() == '|') {
            at++;
            node.parts.add(readTerm());
        }
        return node;
    }

    Node readTerm() throws Bad {
        Node node = new Node('&');
        node.parts.add(readFactor());
        while (peek() == '&') {
            at++;
            node.parts.add(readFactor());
        }
        return node;
    }

    Node readFactor() throws Bad {
        if (peek() == '!') {
            at++;
            Node node = new Node('!');
            node.parts.add(readFactor());
            return node;
        }
        if (peek() == '(') {
            at++;
            Node node = readText();
            if (peek() != ')') throw new Bad(at);
            at++;
            return node;
        }
        Node node = new Node('c');
        node.fact = peek();
        if ("lthrfos".indexOf(node.fact) < 0) throw new Bad(at);
        at++;
        node.sign = peek();
        if ("<>=".indexOf(node.sign) < 0) throw new Bad(at);
        at++;
        String digits = "";
        while (digits.length() < 5 && Character.isDigit(peek())) {
            digits += peek();
            at++;
        }
        if (digits.isEmpty()) throw new Bad(at);
        node.number = Integer.parseInt(digits);
        node.index = comparisons++;
        return node;
    }

    Node readAll() throws Bad {
        read = signs.toString();
        at = 0;
        comparisons = 0;
        Node tree = readText();
        if (at < read.length()) throw new Bad(at);
        return tree;
    }

    int fault() {
        try {
            readAll();
            return -6;
        } catch (Bad bad) {
            return bad.place;
        }
    }

    int act(int kind, int d) {
        if (kind < 0 || kind > 3) return -1;
        if (!day(d)) return -2;
        if (acts.size() == 12) return -4;
        A a = new A();
        try {
            a.tree = readAll();
        } catch (Bad bad) {
            return -5;
        }
        a.comparisons = comparisons;
        a.kind = kind;
        a.day = d;
        acts.add(a);
        signs.setLength(0);
        return acts.size();
    }

    A actOn(int kind, int d) {
        A latest = null;
        for (A a : acts) if (a.kind == kind && a.day <= d && (latest == null || a.day >= latest.day)) latest = a;
        return latest;
    }

    int factOn(H h, char fact, int d) {
        if (fact == 'l') return (h.until() - d) / 365;
        if (fact == 't') return (h.to - h.from) / 365;
        if (fact == 'h') return h.since > d ? 0 : (d - h.since) / 365;
        if (fact == 'r') return rateAt(h, d);
        if (fact == 'f') {
            int n = 0;
            for (int f = 0; f < 12; f++) n += h.floors >> f & 1;
            return n;
        }
        if (fact == 'o') return h.out == null ? 0 : 1 + factOn(h.out, 'o', d);
        Integer home = homes.get(h.person);
        return home != null && (h.floors & 1 << home) != 0 ? 1 : 0;
    }

    boolean so(Node node, boolean[] compared) {
        switch (node.kind) {
            case '|':
                for (Node p : node.parts) if (so(p, compared)) return true;
                return false;
            case '&':
                for (Node p : node.parts) if (!so(p, compared)) return false;
                return true;
            case '!':
                return !so(node.parts.get(0), compared);
            default:
                return compared[node.index];
        }
    }

    void compare(Node node, H h, int d, boolean[] compared) {
        for (Node p : node.parts) compare(p, h, d, compared);
        if (node.kind != 'c') return;
        int fact = factOn(h, node.fact, d);
        compared[node.index] =
            node.sign == '<' ? fact < node.number : node.sign == '>' ? fact > node.number : fact == node.number;
    }

    boolean[] comparedOn(A a, H h, int d) {
        boolean[] compared = new boolean[a.comparisons];
        compare(a.tree, h, d, compared);
        return compared;
    }

    boolean has(H h, int kind, int d) {
        if (!h.inForce(d)) return false;
        A a = actOn(kind, d);
        return a != null && so(a.tree, comparedOn(a, h, d));
    }

    int rightRefusal(H h, int kind) {
        if (h == null || kind < 0 || kind > 3) return -1;
        if (!h.inForce(now)) return -3;
        return actOn(kind, now) == null ? -6 : 0;
    }

    int right(int n, int kind) {
        H h = holding(n);
        int no = rightRefusal(h, kind);
        return no != 0 ? no : has(h, kind, now) ? 1 : 0;
    }

    int decisive(int n, int kind) {
        H h = holding(n);
        int no = rightRefusal(h, kind);
        if (no != 0) return no;
        A a = actOn(kind, now);
        boolean[] compared = comparedOn(a, h, now);
        boolean plain = so(a.tree, compared);
        int bits = 0;
        for (int i = 0; i < compared.length; i++) {
            compared[i] = !compared[i];
            if (so(a.tree, compared) != plain) bits += 1 << i;
            compared[i] = !compared[i];
        }
        return bits;
    }

    int fact(int n, int sign) {
        H h = holding(n);
        if (h == null) return -1;
        if (sign != 'l' && sign != 't' && sign != 'h' && sign != 'r' && sign != 'f' && sign != 'o' && sign != 's') {
            return -2;
        }
        return h.inForce(now) ? factOn(h, (char) sign, now) : -3;
    }

    int first(int n, int kind) {
        H h = holding(n);
        if (h == null || kind < 0 || kind > 3) return -1;
        for (int d = now; d < now + 1000 && d <= 73000; d++) if (has(h, kind, d)) return d;
        return -6;
    }

    // ---- 4

    int statusOf(N n) {
        return n.status == 0 && now >= n.day + 60 ? 1 : n.status;
    }

    N noticeOf(int n) {
        return n < 0 || n >= notices.size() ? null : notices.get(n);
    }

    int notice(int n, int kind) {
        H h = leaseOnly(n);
        if (h == null) return -1;
        if (kind != 0 && kind != 1) return -2;
        if (!h.inForce(now)) return -3;
        if (notices.size() == 24) return -4;
        if (!has(h, kind, now)) return -201;
        for (N o : notices) if (o.giver == h && o.kind == kind && statusOf(o) <= 2) return -202;
        for (N o : notices) {
            if (o.giver == h && o.kind == kind && statusOf(o) == 3 && now < o.withdrawn + 365) return -203;
        }
        N fresh = new N();
        fresh.giver = h;
        fresh.kind = kind;
        fresh.day = now;
        notices.add(fresh);
        return notices.size() - 1;
    }

    int answer(int n, boolean yes) {
        N o = noticeOf(n);
        if (o == null) return -1;
        if (statusOf(o) != 0) return -3;
        o.status = yes ? 1 : 2;
        return 1;
    }

    int withdraw(int n) {
        N o = noticeOf(n);
        if (o == null) return -1;
        if (statusOf(o) > 2) return -3;
        o.status = 3;
        o.withdrawn = now;
        return 1;
    }

    int tribunal(int n, boolean yes) {
        N o = noticeOf(n);
        if (o == null) return -1;
        if (statusOf(o) != 2) return -3;
        o.status = yes ? 1 : 5;
        return 1;
    }

    int status(int n) {
        N o = noticeOf(n);
        return o == null ? -1 : statusOf(o);
    }

    List<H> above(H h) {
        List<H> row = new ArrayList<>();
        for (H up = h.out; up != null; up = up.out) row.add(up);
        return row;
    }

    void fall(H under, H cause, List<H> fallen) {
        for (H c : out(under)) {
            if (c.until() > now) {
                fallen.add(c);
                fall(c, cause, fallen);
            }
        }
    }

    int carry(int n) {
        N o = noticeOf(n);
        if (o == null) return -1;
        H h = o.giver;
        if (statusOf(o) != 1 || !h.inForce(now)) return -3;
        List<H> above = above(h);
        if (o.kind == 0) {
            int to = h.to + 32850 > 73000 ? 73000 : h.to + 32850;
            List<H> leases = new ArrayList<>(above);
            leases.remove(leases.size() - 1);
            leases.add(h);
            for (H l : leases) if (l.to < to && wayBlocked(l, l.out, l.floors, l.to, to)) return -5;
            for (H l : leases) if (l.to < to) l.to = to;
            h.amount = 0;
        } else {
            for (H up : above) if (up.floors != h.floors) return -5;
            H whole = above.remove(above.size() - 1);
            List<H> fallen = new ArrayList<>();
            ends(h, 3);
            for (H up : above) ends(up, 5);
            for (H up : above) fall(up, null, fallen);
            for (H c : out(h)) if (c.until() > now) c.out = whole;
            for (H f : fallen) ends(f, 4);
            whole.person = h.person;
            whole.since = now;
        }
        o.status = 4;
        return 1;
    }

    int stay(int n) {
        H h = leaseOnly(n);
        if (h == null) return -1;
        if (h.way != 0 || now > h.to) return -3;
        if (!has(h, 2, h.to - 1)) return -5;
        if (wayBlocked(h, h.out, h.floors, h.to, h.out.until())) return -5;
        int more = h.out.until() - h.to;
        h.to = h.out.until();
        return more;
    }

    // ---- 5

    int value(int f, int v) {
        if (!floor(f)) return -1;
        if (v < 0 || v > 1000000) return -2;
        int old = values[f];
        values[f] = v;
        return old;
    }

    int point(int years, int t) {
        if (years < 1 || years > 200 || t < 0 || t > 10000) return -2;
        for (int[] p : points) if (p[0] >= years) return -2;
        if (points.size() == 10) return -4;
        points.add(new int[] {years, t});
        return points.size();
    }

    int blank() {
        int n = points.size();
        points.clear();
        return n;
    }

    int tableAt(int years) {
        if (points.isEmpty()) return 10000;
        List<int[]> all = new ArrayList<>(points);
        all.add(0, new int[] {0, 0});
        for (int i = 1; i < all.size(); i++) {
            int[] a = all.get(i - 1), b = all.get(i);
            if (years > b[0]) continue;
            // the greatest whole number not above the line
            for (int t = 10000; t >= 0; t--) {
                if ((long) (t - a[1]) * (b[0] - a[0]) <= (long) (b[1] - a[1]) * (years - a[0])) return t;
            }
        }
        return all.get(all.size() - 1)[1];
    }

    int table(int years) {
        return years < 0 || years > 200 ? -2 : tableAt(years);
    }

    long sumOfValues(int floors) {
        long sum = 0;
        for (int f = 0; f < 12; f++) if ((floors & 1 << f) != 0) sum += values[f];
        return sum;
    }

    long worthOf(H h, int more) {
        return sumOfValues(h.floors) * tableAt((h.until() - now) / 365 + more) / 10000;
    }

    int worth(int n) {
        H h = holding(n);
        if (h == null) return -1;
        return h.inForce(now) ? (int) worthOf(h, 0) : -3;
    }

    int sale(int years, int t) {
        if (years < 0 || years > 200 || t < 0 || t > 10000) return -2;
        if (sales.size() == 20) return -4;
        sales.add(new int[] {years, t});
        return sales.size();
    }

    static BigInteger big(long v) {
        return BigInteger.valueOf(v);
    }

    static BigInteger[] lowest(BigInteger up, BigInteger low) {
        BigInteger g = up.gcd(low);
        if (low.signum() < 0) g = g.negate();
        return new BigInteger[] {up.divide(g), low.divide(g)};
    }

    /** The line a + b x with the normal equations solved by Cramer's rule; null if it is not one. */
    BigInteger[] learn(int years, List<int[]> known) {
        BigInteger n = big(known.size()), x = big(0), y = big(0), xx = big(0), xy = big(0);
        for (int[] s : known) {
            x = x.add(big(s[0]));
            y = y.add(big(s[1]));
            xx = xx.add(big(s[0]).pow(2));
            xy = xy.add(big(s[0]).multiply(big(s[1])));
        }
        BigInteger det = n.multiply(xx).subtract(x.multiply(x));
        if (det.signum() == 0) return null;
        BigInteger a = y.multiply(xx).subtract(x.multiply(xy));
        BigInteger b = n.multiply(xy).subtract(x.multiply(y));
        return lowest(a.add(b.multiply(big(years))), det);
    }

    long learned(int years, int without, int part) {
        if (without < -1 || without >= sales.size()) return LeaseLand.LOST - 1;
        if (years < 0 || years > 200 || part < 0 || part > 1) return LeaseLand.LOST - 2;
        List<int[]> known = new ArrayList<>(sales);
        if (without >= 0) known.remove(without);
        BigInteger[] told = learn(years, known);
        return told == null ? LeaseLand.LOST - 3 : told[part].longValueExact();
    }

    long doubt(int part) {
        if (part < 0 || part > 1) return LeaseLand.LOST - 2;
        BigInteger[] most = {big(0), big(1)};
        for (int[] s : sales) {
            BigInteger[] told = learn(s[0], sales);
            if (told == null) return LeaseLand.LOST - 3;
            BigInteger off = big(s[1]).multiply(told[1]).subtract(told[0]).abs();
            if (off.multiply(most[1]).compareTo(most[0].multiply(told[1])) > 0) most = lowest(off, told[1]);
        }
        return sales.isEmpty() ? LeaseLand.LOST - 3 : most[part].longValueExact();
    }

    int set(int which, int v) {
        if (which < 0 || which > 1 || v < 0) return -2;
        if (which == 0) {
            if (v > 500) return -2;
            int old = yp;
            yp = v;
            return old;
        }
        if (v > 100) return -2;
        int old = defer;
        defer = v;
        return old;
    }

    long[] lossesOf(H h) {
        List<H> row = above(h);
        long[] losses = new long[row.size()];
        H under = h;
        for (int i = 0; i < losses.length; i++) {
            losses[i] = (long) rateAt(under, now) * yp / 10;
            under = row.get(i);
            if (under.out == null) losses[i] += (sumOfValues(h.floors) - worthOf(h, 0)) * defer / 100;
        }
        return losses;
    }

    long price(int n, int what) {
        H h = leaseOnly(n);
        if (h == null) return LeaseLand.LOST - 1;
        if (what < 0 || what > 3) return LeaseLand.LOST - 2;
        if (!h.inForce(now)) return LeaseLand.LOST - 3;
        long all = 0;
        for (long loss : lossesOf(h)) all += loss;
        long gain = worthOf(h, 90) - worthOf(h, 0);
        long marriage = gain < all ? 0 : (gain - all) / 2;
        return new long[] {all + marriage, gain, marriage, all}[what];
    }

    long share(int n, int i) {
        H h = leaseOnly(n);
        if (h == null) return LeaseLand.LOST - 1;
        if (!h.inForce(now)) return LeaseLand.LOST - 3;
        long[] losses = lossesOf(h);
        if (i < 0 || i >= losses.length) return LeaseLand.LOST - 6;
        long all = price(n, 3), marriage = price(n, 2), left = marriage;
        long[] shares = new long[losses.length];
        for (int k = 0; k < losses.length; k++) {
            long mine = all == 0 ? 0 : big(marriage).multiply(big(losses[k])).divide(big(all)).longValueExact();
            shares[k] = losses[k] + mine;
            left -= mine;
        }
        shares[losses.length - 1] += left;
        return shares[i];
    }

    // ---- 6

    boolean mayBuy(H w, int persons) {
        int floors = 0, count = 0, willing = 0;
        for (int f = 0; f < 12; f++) {
            if ((w.floors & 1 << f) == 0) continue;
            floors++;
            List<H> row = chainOf(f);
            if (row.size() < 2) continue;
            H last = row.get(row.size() - 1);
            if (!has(last, 3, now)) continue;
            count++;
            if ((persons & 1 << last.person) != 0) willing++;
        }
        return count * 3 >= floors * 2 && willing * 2 >= floors;
    }

    H wholeOnly(int n) {
        H h = holding(n);
        return h == null || h.out != null ? null : h;
    }

    int may(int n, int persons) {
        H w = wholeOnly(n);
        if (w == null) return -1;
        if (persons < 0 || persons > 1023) return -2;
        return mayBuy(w, persons) ? 1 : 0;
    }

    int more(int n, int persons) {
        H w = wholeOnly(n);
        if (w == null) return -1;
        if (persons < 0 || persons > 1023) return -2;
        if (!mayBuy(w, 1023)) return -6;
        for (int many = 0; many <= 10; many++) {
            for (int further = 0; further < 1024; further++) {
                if (Integer.bitCount(further) != many || (further & persons) != 0) continue;
                if (mayBuy(w, persons + further)) return further;
            }
        }
        return -6;
    }

    int breach(int n, boolean is) {
        H h = leaseOnly(n);
        if (h == null) return -1;
        if (!h.inForce(now)) return -3;
        boolean was = h.breach != -6;
        if (is && !was) h.breach = now;
        if (!is) h.breach = -6;
        return is == was ? 0 : 1;
    }

    int forfeit(int n) {
        H h = leaseOnly(n);
        if (h == null) return -1;
        if (!h.inForce(now)) return -3;
        if (h.breach == -6 || now < h.breach + 30) return -5;
        List<H> fallen = new ArrayList<>();
        fall(h, h, fallen);
        ends(h, 2);
        for (H f : fallen) {
            ends(f, 4);
            f.fellWith = h;
        }
        return fallen.size();
    }

    int relieve(int n) {
        H h = leaseOnly(n);
        if (h == null) return -1;
        if (h.way != 2 || now > h.ended + 180) return -3;
        if (!h.out.inForce(now) || (h.out.floors | h.floors) != h.out.floors) return -5;
        if (wayBlocked(h, h.out, h.floors, now, h.to)) return -5;
        int standing = 0;
        for (H f : holdings) {
            if (f == h || f.fellWith == h) {
                f.way = 0;
                f.fellWith = null;
                standing++;
            }
        }
        h.breach = -6;
        return standing;
    }

    // ---- 7

    int line(int name, int of, int from, int to) {
        if (name < 0 || name > 9 || of < 0 || of > 9 || name == of || !day(from) || !day(to) || from >= to) return -2;
        if (lines.size() == 12) return -4;
        lines.add(new int[] {name, of, from, to});
        return lines.size() - 1;
    }

    boolean canBe(int set) {
        Map<Integer, int[]> byName = new HashMap<>();
        for (int i = 0; i < lines.size(); i++) {
            if ((set & 1 << i) == 0) continue;
            if (byName.put(lines.get(i)[0], lines.get(i)) != null) return false;
        }
        for (int[] l : byName.values()) {
            int[] up = byName.get(l[1]);
            if (up != null && (up[2] > l[2] || up[3] < l[3])) return false;
            for (int i = 0; i < 20 && up != null; i++) {
                if (up == l) return false;
                up = byName.get(up[1]);
            }
        }
        return true;
    }

    int can(int set) {
        if (set < 0 || set >= 1 << lines.size()) return -2;
        return canBe(set) ? 1 : 0;
    }

    int doubted(int i) {
        int all = (1 << lines.size()) - 1;
        for (int many = 0; many <= 12; many++) {
            List<Integer> rivals = new ArrayList<>();
            for (int without = 0; without <= all; without++) {
                if (Integer.bitCount(without) == many && canBe(all - without)) rivals.add(without);
            }
            if (rivals.isEmpty()) continue;
            if (i == -1) return rivals.size();
            return i < 0 || i >= rivals.size() ? -6 : rivals.get(i);
        }
        throw new IllegalStateException("no lines at all can be");
    }

    int told(int what) {
        switch (what) {
            case -1: return now;
            case 0: return holdings.size();
            case 1: return signs.length();
            case 2: return acts.size();
            case 3: return notices.size();
            case 4: return points.size();
            case 5: return sales.size();
            case 6: return lines.size();
            case 7: return yp;
            case 8: return defer;
            default:
                if (what >= 10 && what <= 21) return values[what - 10];
                return what >= 30 && what <= 41 ? weights[what - 30] : -2;
        }
    }
}
