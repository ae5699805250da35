import java.io.IOException;
import java.lang.reflect.InvocationTargetException;
import java.lang.reflect.Method;
import java.lang.reflect.Modifier;
import java.nio.file.Files;
import java.nio.file.Path;
import java.util.ArrayList;
import java.util.Arrays;
import java.util.HashMap;
import java.util.List;
import java.util.Map;
import java.util.TreeSet;

/**
 * For tests of edges: each sentence of the document that names one is quoted under its promise's number (so it can be
 * found there), with calls on a new object. Every refused call is looked at for leaving all as it was.
 */
class Edges {
    static final int UNKNOWN = -1, OUTSIDE = -2, STATE = -3, FULL = -4, NO = -5, NONE = -6;
    static final long LOST = -1000000000000000L;
    static final int MOST = Integer.MAX_VALUE, LEAST = Integer.MIN_VALUE;
    /** What about(holding, what) tells. */
    static final int OUT = 0, FLOORS = 1, FROM = 2, TO = 3, UNTIL = 4, WAY = 5, PERSON = 6, SINCE = 7, AMOUNT = 8,
        DOUBLES = 9, BREACH = 10, UNDER = 11;
    private static final int CALLS_OF_ONE = 512;

    private static final Map<String, Method> FACE = new HashMap<>();
    private static final TreeSet<Integer> SEEN = new TreeSet<>();
    private static final List<Method> calls = new ArrayList<>();
    private static final List<Object[]> numbers = new ArrayList<>();
    private static LeaseLand land = new LeaseLand();
    private static List<long[]> shownBefore;
    private static String document, quoted = "", title = "";
    private static int edges, answers, refusals, wrong;

    static {
        for (Method m : LeaseLand.class.getDeclaredMethods()) {
            if (Modifier.isPublic(m.getModifiers())) FACE.put(m.getName(), m);
        }
        try {
            document = Files.readString(Path.of("../shared/DOC.md"));
        } catch (IOException e) {
            throw new IllegalStateException(e);
        }
    }

    /** A new object, for a sentence that stands under this promise or ahead of all promises, and for an edge of it. */
    static void edge(int promise, String sentence, String edge) {
        quoted = promise + " '" + sentence + "', ";
        title = quoted + edge;
        SEEN.add(promise);
        String own = part("## Promise " + promise + ":", "\n## ");
        String terms = part("# LeaseLand", "## Promise 1:");
        if (!own.contains(sentence) && !terms.contains(sentence)) fail("it does not stand in the document");
        again(edge);
    }

    /** Another new object for the same sentence. */
    static void again(String edge) {
        title = quoted + edge;
        edges++;
        land = new LeaseLand();
        calls.clear();
        numbers.clear();
        shownBefore = null;
    }

    private static String part(String start, String behind) {
        int at = document.indexOf(start);
        int end = document.indexOf(behind, at + start.length());
        return at < 0 || end < 0 ? "" : document.substring(at, end);
    }

    private static void fail(String what) {
        wrong++;
        System.out.println(title + ": " + what);
    }

    /** The answer that is due to a call; if it refuses, nothing may be otherwise than without it. */
    static void due(long want, String name, Object... args) {
        answers++;
        Method method = FACE.get(name);
        // A move of one who lived nowhere is no refusal.
        boolean refused = want < 0 && !(name.equals("live") && want == NONE);
        if (refused && shownBefore == null) shownBefore = shown();
        long got = call(land, method, args);
        keep(method, args);
        if (got != want) fail(name + Arrays.toString(args) + " answered " + got + ", due is " + want);
        if (!refused) {
            shownBefore = null;
            return;
        }
        refusals++;
        if (!same(shownBefore, shown())) fail(name + Arrays.toString(args) + " refused, but changed what is shown");
    }

    /** A call that goes well, whatever it answers. */
    static long does(String name, Object... args) {
        long got = call(land, FACE.get(name), args);
        keep(FACE.get(name), args);
        shownBefore = null;
        if (got < 0 && got != NONE) fail(name + Arrays.toString(args) + " answered " + got);
        return got;
    }

    private static void keep(Method method, Object[] args) {
        calls.add(method);
        numbers.add(args);
        if (calls.size() > CALLS_OF_ONE) throw new IllegalStateException(title + ": too many calls on one object");
    }

    static void say(String text) {
        for (char sign : text.toCharArray()) does("say", (int) sign);
    }

    static void law(int kind, int day, String text) {
        does("wipe");
        say(text);
        does("act", kind, day);
    }

    /**
     * A WHOLE 0 of floors 0 to 2, person 0; a LEASE 1 of all for days 0 to 36500, person 1; under it 2, of floor 0 for
     * days 0 to 3650, person 2.
     */
    static void house() {
        due(0, "whole", 7, 0);
        due(1, "lease", 0, 7, 0, 36500, 1);
        due(2, "lease", 1, 1, 0, 3650, 2);
    }

    /** Leases of one late day each, till there are so many holdings. */
    static void fill(int many, int out, int floors) {
        for (int i = (int) does("told", 0); i < many; i++) does("lease", out, floors, 72900 + i, 72901 + i, 9);
    }

    static void finish(int first, int last) {
        for (int promise = first; promise <= last; promise++) {
            if (!SEEN.contains(promise)) {
                wrong++;
                System.out.println("promise " + promise + " has no edge");
            }
        }
        finish("promises " + first + " to " + last);
    }

    static void finish(String what) {
        System.out.println(what + ": " + edges + " edges, " + answers + " answers, " + refusals + " refused calls, " + wrong
            + " wrong");
        if (wrong != 0) System.exit(1);
    }

    private static long call(LeaseLand x, Method method, Object[] args) {
        try {
            return ((Number) method.invoke(x, args)).longValue();
        } catch (InvocationTargetException e) {
            fail(method.getName() + Arrays.toString(args) + " threw " + e.getCause());
            return Long.MIN_VALUE;
        } catch (IllegalAccessException e) {
            throw new IllegalStateException(e);
        }
    }

    private static boolean same(List<long[]> before, List<long[]> after) {
        for (int i = 0; i < LOOKS.length; i++) {
            int place = Arrays.mismatch(before.get(i), after.get(i));
            if (place >= 0) {
                System.out.println("look " + i + " is another one from place " + place + " on");
                return false;
            }
        }
        return true;
    }

    /** All that the calls so far have left, each look on an object of its own, as some looks change it. */
    private static List<long[]> shown() {
        List<long[]> all = new ArrayList<>();
        for (Look look : LOOKS) {
            LeaseLand x = new LeaseLand();
            for (int i = 0; i < calls.size(); i++) call(x, calls.get(i), numbers.get(i));
            Shown shown = new Shown();
            look.look(x, shown);
            all.add(Arrays.copyOf(shown.told, shown.many));
        }
        return all;
    }

    private static final class Shown {
        long[] told = new long[64];
        int many;

        void add(long number) {
            if (many == told.length) told = Arrays.copyOf(told, 2 * many);
            told[many++] = number;
        }
    }

    private interface Look {
        void look(LeaseLand x, Shown s);
    }

    private static final Look[] LOOKS = {
        Edges::lookAtNumbers, Edges::lookAtHoldings, Edges::lookAtChains, Edges::lookAtRights, Edges::lookAtSigns,
        Edges::lookAtPrices, Edges::lookAtSales, Edges::lookAtLines, Edges::lookAtNotices, Edges::lookAtBreaches,
        Edges::lookAtRelief, Edges::lookAtStaying, Edges::lookAhead
    };

    private static void lookAtNumbers(LeaseLand x, Shown s) {
        for (int what = -1; what <= 41; what++) s.add(x.told(what));
        for (int person = 0; person < 10; person++) s.add(x.live(person, -1));
    }

    private static void lookAtHoldings(LeaseLand x, Shown s) {
        for (int h = 0; h < x.told(0); h++) {
            for (int what = OUT; what <= UNDER; what++) s.add(x.about(h, what));
            s.add(x.rate(h, x.told(-1)));
            s.add(x.owed(h, 0, 73000));
        }
    }

    private static void lookAtChains(LeaseLand x, Shown s) {
        for (int floor = 0; floor < 12; floor++) {
            for (int i = -1; i < 9; i++) s.add(x.chain(floor, i));
        }
    }

    private static void lookAtRights(LeaseLand x, Shown s) {
        for (int h = 0; h < Math.min(x.told(0), 12); h++) {
            for (int kind = 0; kind < 4; kind++) {
                s.add(x.right(h, kind));
                s.add(x.decisive(h, kind));
                s.add(x.first(h, kind));
            }
            s.add(x.may(h, 6));
            s.add(x.more(h, 6));
        }
    }

    private static void lookAtSigns(LeaseLand x, Shown s) {
        s.add(x.fault());
        s.add(x.act(3, x.told(-1)));
        for (int h = 0; h < x.told(0); h++) s.add(x.decisive(h, 3));
        s.add(x.wipe());
    }

    private static void lookAtPrices(LeaseLand x, Shown s) {
        for (int years = 0; years <= 200; years++) s.add(x.table(years));
        for (int h = 0; h < Math.min(x.told(0), 12); h++) {
            s.add(x.worth(h));
            for (int what = 0; what < 4; what++) s.add(x.price(h, what));
            for (int i = 0; i < 4; i++) s.add(x.share(h, i));
        }
        s.add(x.blank());
    }

    private static void lookAtSales(LeaseLand x, Shown s) {
        for (int without = -1; without < x.told(5); without++) {
            for (int part = 0; part < 2; part++) {
                s.add(x.learned(0, without, part));
                s.add(x.learned(200, without, part));
            }
        }
        s.add(x.doubt(0));
        s.add(x.doubt(1));
    }

    private static void lookAtLines(LeaseLand x, Shown s) {
        int lines = x.told(6);
        for (int i = 0; i < lines; i++) {
            for (int k = 0; k < i; k++) s.add(x.can(1 << i | 1 << k));
        }
        for (int i = -1; i < 4; i++) s.add(x.doubted(i));
    }

    private static void lookAtNotices(LeaseLand x, Shown s) {
        int many = x.told(3);
        for (int n = 0; n < many; n++) s.add(x.status(n));
        for (int n = 0; n < many; n++) s.add(x.carry(n));
        for (int n = 0; n < many; n++) s.add(x.withdraw(n));
        for (int n = 0; n < many; n++) s.add(x.status(n));
        for (int h = 0; h < x.told(0); h++) {
            s.add(x.notice(h, 0));
            s.add(x.notice(h, 1));
            s.add(x.about(h, UNTIL));
            s.add(x.about(h, WAY));
        }
    }

    private static void lookAtBreaches(LeaseLand x, Shown s) {
        for (int h = 0; h < x.told(0); h++) s.add(x.forfeit(h));
        for (int h = 0; h < x.told(0); h++) s.add(x.about(h, UNTIL) * 10L + x.about(h, WAY));
    }

    private static void lookAtRelief(LeaseLand x, Shown s) {
        for (int h = 0; h < x.told(0); h++) s.add(x.relieve(h));
        for (int h = 0; h < x.told(0); h++) s.add(x.about(h, UNTIL) * 10L + x.about(h, WAY));
    }

    private static void lookAtStaying(LeaseLand x, Shown s) {
        for (int h = 0; h < x.told(0); h++) s.add(x.stay(h));
        for (int h = 0; h < x.told(0); h++) s.add(x.end(h, 1));
    }

    /** Days on, what lay hidden may show. */
    private static void lookAhead(LeaseLand x, Shown s) {
        s.add(x.today(Math.min(73000, x.told(-1) + 30)));
        for (int h = 0; h < x.told(0); h++) s.add(x.forfeit(h));
        s.add(x.today(Math.min(73000, x.told(-1) + 30)));
        for (int n = 0; n < x.told(3); n++) s.add(x.status(n));
        s.add(x.today(Math.min(73000, x.told(-1) + 304)));
        for (int h = 0; h < x.told(0); h++) {
            s.add(x.notice(h, 0));
            s.add(x.notice(h, 1));
            s.add(x.rate(h, x.told(-1)));
            s.add(x.about(h, WAY));
        }
    }
}
