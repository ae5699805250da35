import java.lang.reflect.Method;
import java.util.ArrayList;
import java.util.Arrays;
import java.util.HashMap;
import java.util.List;
import java.util.Map;
import java.util.Random;

/** Long runs of chosen and of wild calls on LeaseLand and on SlowLand: each answer must be the same. */
public final class RandomRunsTest {
    private static final Map<String, Method> FAST = new HashMap<>();
    private static final Map<String, Method> SLOW = new HashMap<>();
    private static final List<String> NAMES = new ArrayList<>();
    private static final int[] STEPS = {0, 1, 1, 5, 29, 30, 31, 59, 60, 61, 100, 179, 181, 364, 365, 366, 1000, 4000};
    private static final Map<String, long[]> SEEN = new HashMap<>();

    private final Random chance;
    private final LeaseLand fast = new LeaseLand();
    private final SlowLand slow = new SlowLand();
    private final StringBuilder told = new StringBuilder();
    private final int mood;
    private boolean wrong;

    private RandomRunsTest(long seed) {
        chance = new Random(seed);
        mood = (int) (seed % 6);
    }

    public static void main(String[] args) throws Exception {
        for (Method m : LeaseLand.class.getDeclaredMethods()) {
            if (java.lang.reflect.Modifier.isPublic(m.getModifiers())) {
                FAST.put(m.getName(), m);
                NAMES.add(m.getName());
            }
        }
        NAMES.sort(null);
        for (Method m : SlowLand.class.getDeclaredMethods()) {
            Method same = FAST.get(m.getName());
            if (same != null && Arrays.equals(same.getParameterTypes(), m.getParameterTypes())) {
                SLOW.put(m.getName(), m);
            }
        }
        if (SLOW.size() != 49) {
            System.out.println("the slow one has " + SLOW.size() + " of 49 calls");
            System.exit(1);
        }
        int runs = args.length > 0 ? Integer.parseInt(args[0]) : 600;
        int start = args.length > 1 ? Integer.parseInt(args[1]) : 0;
        int bad = 0;
        for (int seed = start; seed < start + runs; seed++) {
            RandomRunsTest run = new RandomRunsTest(seed);
            run.play(seed);
            bad += run.wrong ? 1 : 0;
        }
        if (args.length > 2) {
            System.out.println(over + " bought out, " + falls + " fell by buying");
            for (String name : NAMES) System.out.println(name + " " + Arrays.toString(SEEN.get(name)));
        }
        System.out.println(runs + " random runs, " + bad + " with a wrong answer");
        if (bad != 0 || !isWide()) System.exit(1);
    }

    /** A test that reaches no success and no refusal of a call would hold nothing. */
    private static boolean isWide() {
        boolean wide = over > 0 && falls > 0;
        if (!wide) System.out.println(over + " bought out, " + falls + " fell by buying");
        for (String name : NAMES) {
            long[] seen = SEEN.get(name);
            if (seen == null || seen[0] == 0) {
                System.out.println(name + " never went well");
                wide = false;
            }
        }
        return wide;
    }

    private void play(long seed) throws Exception {
        while (calls < (mood == 4 ? 4000 : 512) && !wrong) {
            step();
            if (chance.nextInt(24) == 0) compareAll();
        }
        compareAll();
        if (wrong) System.out.println("seed " + seed);
    }

    private int calls;

    private long call(String name, Object... args) throws Exception {
        if (wrong) return 0;
        calls++;
        told.append(name).append(Arrays.toString(args)).append(' ');
        long want = ((Number) SLOW.get(name).invoke(slow, args)).longValue();
        long got;
        try {
            got = ((Number) FAST.get(name).invoke(fast, args)).longValue();
        } catch (java.lang.reflect.InvocationTargetException e) {
            System.out.println(name + Arrays.toString(args) + " threw " + e.getCause());
            wrong = true;
            return 0;
        }
        if (name.equals("carry") && want == 1) countBuying();
        long refusal = want < LeaseLand.LOST / 2 ? want - LeaseLand.LOST : want;
        long[] seen = SEEN.computeIfAbsent(name, n -> new long[8]);
        if (refusal >= 0) seen[0]++;
        else if (refusal >= -6) seen[(int) -refusal]++;
        else seen[7]++;
        if (got != want) {
            System.out.println(name + Arrays.toString(args) + " answered " + got + ", due is " + want);
            System.out.println("  after " + (told.length() > 3000 ? "..." + told.substring(told.length() - 3000) : told));
            wrong = true;
        }
        return want;
    }

    /** Buyings over leases between, and such with others that fall: without them a part of promise 29 is not held. */
    private void countBuying() {
        for (SlowLand.H h : slow.holdings) {
            if (h.way == 5 && h.ended == slow.now) over++;
            if (h.way == 4 && h.fellWith == null && h.ended >= slow.now && h.out.way == 5) falls++;
        }
    }

    private static int over, falls;

    private void compareAll() throws Exception {
        int before = calls;
        for (int what = -2; what < 45; what++) call("told", what);
        for (int h = -1; h <= slow.holdings.size(); h++) {
            for (int what = -1; what < 13; what++) call("about", h, what);
            for (int i = -1; i < 5; i++) call("share", h, i);
            for (int what = 0; what < 4; what++) call("price", h, what);
            call("worth", h);
        }
        for (int f = -1; f <= 12; f++) for (int i = -2; i < 7; i++) call("chain", f, i);
        for (int n = -1; n <= slow.notices.size(); n++) call("status", n);
        for (int k = 0; k < 4; k++) for (int h = 0; h < slow.holdings.size(); h++) {
            call("right", h, k);
            call("decisive", h, k);
        }
        calls = before;
    }

    private int upTo(int n) {
        return chance.nextInt(n);
    }

    private boolean rarely() {
        return upTo(20) == 0;
    }

    private int holding() {
        int n = slow.holdings.size();
        if (upTo(40) == 0) return upTo(3) == 0 ? -1 : n + upTo(2);
        if (n > 0 && upTo(3) != 0) {
            // one that is in force, if there is one
            for (int i = 0; i < 8; i++) {
                int h = upTo(n);
                if (slow.holdings.get(h).inForce(slow.now)) return h;
            }
        }
        return n == 0 ? 0 : upTo(n);
    }

    private int leaseNumber() {
        int h = holding();
        for (int i = 0; i < 4 && h >= 0 && h < slow.holdings.size() && slow.holdings.get(h).out == null; i++) h = holding();
        return h;
    }

    private int person() {
        return upTo(50) == 0 ? 10 - 11 * upTo(2) : upTo(mood == 1 ? 3 : 10);
    }

    private int floorsOf(int holding) {
        SlowLand.H h = slow.holding(holding);
        if (h == null || rarely()) return upTo(4200) - 50;
        // with one set of floors all along leases may buy what is above them
        if (upTo(3) == 0 || mood == 3) return h.floors;
        int some = h.floors & chance.nextInt();
        return some == 0 ? h.floors : some;
    }

    private int wild() {
        int[] all = {0, -1, 1, 2, 73000, 73001, -73000, Integer.MAX_VALUE, Integer.MIN_VALUE, 10, 11, 12, 40, 4095, 4096,
            1023, 1024, 200, 201, 10000, 10001, 365, 65536 + 'l', 48};
        return upTo(2) == 0 ? all[upTo(all.length)] : upTo(50);
    }

    private void wildCall() throws Exception {
        String name = NAMES.get(upTo(NAMES.size()));
        Class<?>[] types = FAST.get(name).getParameterTypes();
        Object[] args = new Object[types.length];
        for (int i = 0; i < args.length; i++) args[i] = types[i] == boolean.class ? (Object) chance.nextBoolean() : wild();
        call(name, args);
    }

    private void step() throws Exception {
        if (upTo(25) == 0) {
            wildCall();
        } else if (slow.holdings.isEmpty() || slow.holdings.size() < 4 && upTo(4) == 0) {
            call("whole", upTo(3) == 0 ? 1 + upTo(4095) : mood % 2 == 0 ? 15 : 7 << upTo(9), person());
        } else {
            int[] weightsOfMoods = {60, 40, 20, 50, 50, 30};
            if (upTo(100) < weightsOfMoods[mood]) holdingStep();
            else otherStep();
        }
    }

    private void grant(String how, int h) throws Exception {
        SlowLand.H out = slow.holding(h);
        int from = slow.now + (upTo(2) == 0 ? 0 : upTo(4) == 0 ? upTo(2000) : upTo(90));
        int to = from + 1 + (upTo(3) == 0 ? upTo(300) : upTo(20000));
        if (out != null && upTo(2) == 0) to = out.until();
        if (out != null && upTo(4) == 0) from = Math.max(slow.now, out.from);
        // where another one's days begin or end is where the edges are
        SlowLand.H other = slow.holdings.get(upTo(slow.holdings.size()));
        if (upTo(6) == 0) from = other.until();
        if (upTo(8) == 0) to = other.from;
        if (upTo(8) == 0) to = other.until();
        if (rarely()) from = slow.now - 1;
        int floors = floorsOf(h);
        if (how.equals("between") && upTo(2) == 0) {
            for (SlowLand.H c : slow.holdings) if (c.out == out && c.out != null && upTo(2) == 0) floors |= c.floors;
        }
        call(how, h, floors, from, to, person());
    }

    private void holdingStep() throws Exception {
        int h = holding(), l = leaseNumber();
        if (mood == 3 && upTo(12) == 0) {
            buyStory(h);
            return;
        }
        switch (upTo(22)) {
            case 0: case 1: case 2: case 3: case 4:
                grant("lease", h);
                break;
            case 5: case 6: case 7:
                grant("between", h);
                break;
            case 8:
                call("sell", h, person());
                break;
            case 9: case 10:
                call("part", l, floorsOf(l), person());
                break;
            case 11:
                call("end", l, upTo(3) == 0 ? 1 : 3);
                break;
            case 12: case 13: case 14:
                call("breach", l, upTo(4) != 0);
                break;
            case 15: case 16: case 17:
                call("forfeit", l);
                break;
            case 18: case 19:
                call("relieve", ended(l));
                break;
            case 20:
                call("today", rarely() ? slow.now - 1 : slow.now + STEPS[upTo(upTo(3) == 0 ? STEPS.length : 8)]);
                break;
            default:
                call("stay", l);
                break;
        }
    }

    /** A row of leases of one set of floors, others behind their days, and a notice to buy. */
    private void buyStory(int h) throws Exception {
        SlowLand.H top = slow.holding(h);
        if (top == null || slow.holdings.size() > 34) return;
        int now = slow.now, days = 2 + upTo(900), behind = now + days;
        long first = call("lease", h, top.floors, now, behind + 1000, person());
        long second = call("lease", (int) first, top.floors, now, behind + 500, person());
        long third = call("lease", (int) second, top.floors, now, behind, person());
        call("lease", (int) second, upTo(3) == 0 ? 1 + upTo(15) : top.floors, behind, behind + 1 + upTo(500), person());
        call("lease", slow.holdings.size() - 1, top.floors, behind, behind + 1 + upTo(500), person());
        call("lease", (int) third, top.floors & (1 + upTo(4095)), now + upTo(days), behind, person());
        call("lease", (int) first, top.floors, behind + 500, behind + 1000, person());
        call("wipe");
        for (char sign : "f>0".toCharArray()) call("say", (int) sign);
        call("act", 1, now);
        long notice = call("notice", (int) (upTo(4) == 0 ? second : third), 1);
        call("today", now + upTo(Math.min(days + 1, 70)));
        call("answer", (int) notice, true);
        call("carry", (int) notice);
    }

    private int ended(int l) {
        for (int i = 0; i < 12; i++) {
            int n = upTo(slow.holdings.size());
            if (slow.holdings.get(n).way == 2) return n;
        }
        return l;
    }

    private void otherStep() throws Exception {
        int h = holding(), l = leaseNumber();
        switch (upTo(24)) {
            case 0:
                call("today", slow.now + STEPS[upTo(upTo(3) == 0 ? STEPS.length : 12)]);
                break;
            case 1: case 2:
                sayText();
                break;
            case 3:
                call("live", person(), upTo(14) - 2);
                break;
            case 4: case 5:
                call("rent", l, upTo(4) == 0 ? 100001 - upTo(3) : upTo(3000), upTo(4) == 0 ? 100 - upTo(2) * 98 : upTo(12));
                call("rate", h, upTo(4) == 0 ? upTo(73002) : slow.now);
                break;
            case 6:
                int from = upTo(73000);
                call("owed", h, upTo(2) == 0 ? slow.now : from, Math.min(73001, from + upTo(9000)));
                break;
            case 7:
                call("weight", upTo(14) - 1, upTo(103));
                break;
            case 8: case 9: case 10:
                call("notice", l, upTo(2));
                if (upTo(2) == 0) noticeStep();
                break;
            case 11: case 12: case 13:
                noticeStep();
                break;
            case 14:
                call("value", upTo(14) - 1, upTo(5) == 0 ? 1000000 + upTo(3) - 1 : upTo(50000));
                call("set", upTo(2), upTo(2) == 0 ? upTo(30) : 99 + upTo(404));
                break;
            case 15: case 16:
                pointStep();
                break;
            case 17: case 18:
                saleStep();
                break;
            case 19: case 20:
                registerStep();
                break;
            case 21:
                call("first", h, upTo(4));
                call("fact", h, rarely() ? wild() : "lthrfos".charAt(upTo(7)));
                break;
            default:
                int w = upTo(slow.holdings.size());
                for (int i = 0; i < 9 && slow.holdings.get(w).out != null; i++) w = upTo(slow.holdings.size());
                call("may", w, upTo(1024));
                call("more", w, upTo(1024) & upTo(1024));
                break;
        }
    }

    private void noticeStep() throws Exception {
        int n = rarely() ? upTo(26) - 1 : upTo(2) == 0 ? slow.notices.size() - 1 : upTo(slow.notices.size() + 1);
        boolean yes = upTo(3) != 0;
        switch (upTo(6)) {
            case 0: case 1:
                call("answer", n, yes);
                break;
            case 2:
                call("withdraw", n);
                break;
            case 3:
                call("tribunal", n, yes);
                break;
            default:
                call("carry", n);
        }
    }

    private void pointStep() throws Exception {
        int last = slow.points.isEmpty() ? 0 : slow.points.get(slow.points.size() - 1)[0];
        if (upTo(30) == 0) call("blank");
        call("point", rarely() ? upTo(202) : last + 1 + upTo(40), upTo(10002));
        call("table", upTo(202));
    }

    private void saleStep() throws Exception {
        call("sale", upTo(3) == 0 ? upTo(4) * 20 : upTo(202), upTo(10002));
        call("learned", upTo(202), upTo(slow.sales.size() + 2) - 1, upTo(2));
        call("doubt", upTo(2));
    }

    private void registerStep() throws Exception {
        int from = upTo(6), names = upTo(2) == 0 ? 4 : 10;
        call("line", upTo(names), upTo(names), from, from + upTo(8));
        call("can", upTo((1 << slow.lines.size()) + 1));
        call("doubted", upTo(5) - 1);
        call("doubted", -1);
    }

    private String factor(int deep) {
        if (upTo(5) == 0) return "!" + factor(deep);
        if (deep > 0 && upTo(3) == 0) return "(" + text(deep - 1) + ")";
        char fact = "lthrfos".charAt(upTo(7));
        int far = fact == 'r' ? 3000 : fact == 'l' || fact == 't' ? 60 : 4;
        return "" + fact + "<>=".charAt(upTo(3)) + upTo(far);
    }

    private String text(int deep) {
        StringBuilder text = new StringBuilder(factor(deep));
        while (upTo(2) == 0) text.append(upTo(2) == 0 ? '&' : '|').append(factor(deep));
        return text.toString();
    }

    private void sayText() throws Exception {
        if (upTo(3) != 0) call("wipe");
        String text = text(3);
        // texts that are often so, that notices may follow
        if (upTo(3) != 0) text = "f>0|" + text;
        if (upTo(6) == 0) {
            int place = upTo(text.length());
            text = text.substring(0, place) + "!()&|<>=0123456789lthrfosx".charAt(upTo(26)) + text.substring(place);
        }
        if (upTo(12) == 0) text = text.substring(0, upTo(text.length() + 1));
        int slack = Math.min(text.length(), upTo(8) == 0 ? 60 : 20);
        for (int i = 0; i < text.length() && (i < slack || text.length() < 49); i++) {
            call("say", (int) text.charAt(i));
            if (upTo(12) == 0) call("fault");
        }
        call("fault");
        int kind = rarely() ? upTo(6) - 1 : upTo(4);
        call("act", kind, rarely() ? slow.now + upTo(3000) : Math.max(0, slow.now - upTo(3)));
    }
}
