/** Each promise by hand: ordinary calls, the edges that the document names, wrong numbers. */
public final class PromisesTest {
    private static final int UNKNOWN = -1, OUTSIDE = -2, STATE = -3, FULL = -4, NO = -5, NONE = -6;
    private static final long LOST = -1000000000000000L;
    private static final int MANY = Integer.MAX_VALUE, FEW = Integer.MIN_VALUE;
    private static int wrong = 0, looked = 0;
    private static String promise = "";
    private static LeaseLand x;

    private static void promise(String name) {
        promise = name;
        x = new LeaseLand();
    }

    private static void due(String what, long got, long want) {
        looked++;
        if (got != want) {
            wrong++;
            System.out.println(promise + ": " + what + " answered " + got + ", due is " + want);
        }
    }

    private static void text(String signs) {
        x.wipe();
        for (char sign : signs.toCharArray()) x.say(sign);
    }

    private static void law(int kind, int day, String signs) {
        text(signs);
        if (x.act(kind, day) < 0) due("act " + signs, -1, 0);
    }

    /** A WHOLE 0 of three floors, person 0; a LEASE 1 of all for 100 years, person 1; under it 2, floor 0, person 2. */
    private static void house() {
        x.whole(7, 0);
        x.lease(0, 7, 0, 36500, 1);
        x.lease(1, 1, 0, 3650, 2);
    }

    private static void fillHoldings() {
        for (int i = x.told(0); i < 40; i++) x.whole(1 << Math.min(i, 11), 9);
        for (int i = x.told(0); i < 40; i++) x.lease(0, 1, 72900 + i, 72901 + i, 9);
        due("as many as can be", x.told(0), 40);
    }

    public static void main(String[] args) {
        newObject();
        today();
        whole();
        lease();
        between();
        sell();
        part();
        end();
        about();
        chain();
        live();
        rent();
        rate();
        owed();
        weight();
        say();
        wipe();
        fault();
        act();
        right();
        decisive();
        fact();
        first();
        notice();
        answer();
        withdraw();
        tribunal();
        status();
        carryLonger();
        carryBuy();
        stay();
        value();
        point();
        blank();
        table();
        worth();
        sale();
        learned();
        doubt();
        doubtOfTheFirst();
        set();
        price();
        share();
        may();
        more();
        breach();
        forfeit();
        relieve();
        line();
        can();
        doubted();
        told();
        System.out.println(looked + " answers looked at, " + wrong + " wrong");
        if (wrong != 0) System.exit(1);
    }

    private static void newObject() {
        promise("1 LeaseLand");
        for (int what = -1; what <= 6; what++) due("told " + what, x.told(what), 0);
        due("YP", x.told(7), 100);
        due("DEFER", x.told(8), 50);
        for (int f = 0; f < 12; f++) {
            due("VALUE", x.told(10 + f), 0);
            due("WEIGHT", x.told(30 + f), 1);
            due("chain", x.chain(f, -1), 0);
        }
        for (int p = 0; p < 10; p++) due("lives", x.live(p, -1), NONE);
        due("no holding", x.about(0, 0), UNKNOWN);
        due("no notice", x.status(0), UNKNOWN);
        LeaseLand other = new LeaseLand();
        other.whole(1, 0);
        other.weight(0, 7);
        other.say('l');
        due("objects share nothing", x.told(0) + x.told(1) + x.told(30), 1);
    }

    private static void today() {
        promise("2 today");
        due("on", x.today(5), 0);
        due("the same", x.today(5), 5);
        due("back", x.today(4), OUTSIDE);
        due("below 0", x.today(-1), OUTSIDE);
        due("beyond", x.today(73001), OUTSIDE);
        due("least", x.today(FEW), OUTSIDE);
        due("kept", x.told(-1), 5);
        due("END", x.today(73000), 5);
        due("END again", x.today(73000), 73000);
    }

    private static void whole() {
        promise("3 whole");
        due("floors 0 to 10", x.whole(2047, 9), 0);
        due("floor 11", x.whole(2048, 0), 1);
        due("again", x.whole(2048, 0), NO);
        due("one common", x.whole(3, 0), NO);
        due("person 10", x.whole(1, 10), UNKNOWN);
        due("person -1 and floors 0", x.whole(0, -1), UNKNOWN);
        due("no floors", x.whole(0, 0), OUTSIDE);
        due("floor 12", x.whole(4096, 0), OUTSIDE);
        due("below 0", x.whole(-1, 0), OUTSIDE);
        due("count", x.told(0), 2);
        due("from", x.about(0, 2), 0);
        due("to", x.about(0, 3), 73000);
        fillHoldings();
        due("FULL ahead of NO", x.whole(1, 0), FULL);
        due("OUTSIDE ahead of FULL", x.whole(0, 0), OUTSIDE);
        promise("3 whole, later");
        x.today(77);
        x.whole(1, 3);
        due("from", x.about(0, 2), 0);
        due("since", x.about(0, 7), 77);
    }

    private static void lease() {
        promise("4 lease");
        x.whole(7, 0);
        x.today(10);
        due("lease", x.lease(0, 3, 10, 100, 1), 1);
        due("its since is its from", x.lease(0, 4, 50, 100, 1), 2);
        due("since", x.about(2, 7), 50);
        due("no holding", x.lease(3, 3, 100, 200, 1), UNKNOWN);
        due("no person", x.lease(0, 3, 100, 200, 10), UNKNOWN);
        due("UNKNOWN first", x.lease(-1, 0, 5, 1, 11), UNKNOWN);
        due("no floors", x.lease(0, 0, 100, 200, 1), OUTSIDE);
        due("floor 12", x.lease(0, 4096, 100, 200, 1), OUTSIDE);
        due("ahead of TODAY", x.lease(0, 1, 9, 20, 1), OUTSIDE);
        due("from is to", x.lease(0, 1, 200, 200, 1), OUTSIDE);
        due("to ahead of from", x.lease(0, 1, 200, 199, 1), OUTSIDE);
        due("beyond the END", x.lease(0, 1, 200, 73001, 1), OUTSIDE);
        due("a floor it has not", x.lease(0, 8, 200, 201, 1), NO);
        due("one floor in common", x.lease(0, 6, 20, 30, 1), NO);
        due("one day in common", x.lease(0, 1, 99, 200, 1), NO);
        due("from the day on that it ends", x.lease(0, 1, 100, 72900, 1), 3);
        due("till ahead of its from", x.lease(0, 4, 10, 50, 1), 4);
        due("longer than what it is out of", x.lease(1, 1, 10, 101, 1), NO);
        due("earlier than that", x.lease(2, 4, 49, 60, 1), NO);
        due("all of it", x.lease(1, 3, 10, 100, 1), 5);
        x.end(5, 1);
        due("as that ended", x.lease(1, 1, 10, 20, 1), 6);
        x.end(1, 1);
        due("out of what ended", x.lease(1, 2, 10, 20, 1), NO);
        fillHoldings();
        due("FULL ahead of NO", x.lease(0, 8, 200, 201, 1), FULL);
        due("OUTSIDE ahead of FULL", x.lease(0, 0, 200, 201, 1), OUTSIDE);
    }

    private static void between() {
        promise("5 between");
        house();
        due("over 2", x.between(1, 3, 0, 3650, 3), 3);
        due("2 is out of it", x.about(2, 0), 3);
        due("it is out of 1", x.about(3, 0), 1);
        due("chain", x.chain(0, 2), 3);
        due("too few days", x.between(1, 7, 0, 3649, 3), NO);
        due("too few floors", x.between(0, 3, 0, 36500, 3), NO);
        due("too late", x.between(1, 3, 1, 36500, 3), NO);
        due("no holding", x.between(9, 3, 0, 3650, 3), UNKNOWN);
        due("no person", x.between(1, 3, 0, 3650, -1), UNKNOWN);
        due("no floors", x.between(1, 0, 0, 3650, 3), OUTSIDE);
        due("from is to", x.between(1, 3, 5, 5, 3), OUTSIDE);
        due("beyond END", x.between(0, 7, 0, 73001, 3), OUTSIDE);
        due("not within", x.between(1, 7, 0, 36501, 3), NO);
        due("over none", x.between(1, 4, 0, 10, 3), 4);
        x.today(100);
        due("ahead of TODAY", x.between(1, 3, 99, 3650, 3), OUTSIDE);
        due("days ahead of TODAY don't count", x.between(1, 3, 100, 3650, 4), 5);
        due("over 3 alone", x.about(3, 0) * 100 + x.about(2, 0), 503);
        due("since is from", x.about(5, 7), 100);
        due("what is over already is not in it", x.about(4, 0), 1);
        x.lease(0, 7, 36500, 40000, 6);
        due("over two", x.between(0, 7, 100, 40000, 7), 7);
        due("both", x.about(1, 0) * 10 + x.about(6, 0), 77);
        fillHoldings();
        due("FULL", x.between(0, 8, 100, 40000, 7), FULL);
    }

    private static void sell() {
        promise("6 sell");
        house();
        x.today(9);
        due("sold", x.sell(1, 5), 1);
        due("person", x.about(1, 6), 5);
        due("since", x.about(1, 7), 9);
        due("a WHOLE too", x.sell(0, 4), 0);
        due("no holding", x.sell(3, 4), UNKNOWN);
        due("no person", x.sell(1, 10), UNKNOWN);
        x.lease(1, 2, 10, 20, 3);
        due("not begun", x.sell(3, 4), STATE);
        x.today(20);
        due("over", x.sell(3, 4), STATE);
        due("to the same", x.sell(0, 4), 4);
        due("since then", x.about(0, 7), 20);
    }

    private static void part() {
        promise("7 part");
        house();
        x.weight(0, 3);
        x.weight(2, 2);
        x.rent(1, 1000, 7);
        x.breach(1, true);
        x.lease(1, 6, 100, 200, 4);
        x.today(50);
        due("across", x.part(1, 2, 5), NO);
        due("all", x.part(1, 7, 5), NO);
        due("floors it has not", x.part(1, 9, 5), NO);
        due("a WHOLE", x.part(0, 1, 5), UNKNOWN);
        due("no person", x.part(1, 1, 10), UNKNOWN);
        due("no floors", x.part(1, 0, 5), OUTSIDE);
        due("floor 12", x.part(1, 4096, 5), OUTSIDE);
        due("not begun", x.part(3, 2, 5), STATE);
        due("parted", x.part(1, 1, 5), 4);
        due("amount", x.about(4, 8), 500);
        due("the rest", x.about(1, 8), 500);
        due("doubling", x.about(4, 9), 7);
        due("from", x.about(4, 2), 0);
        due("to", x.about(4, 3), 36500);
        due("since", x.about(4, 7), 50);
        due("no BREACH", x.about(4, 10), NONE);
        due("the old one's stays", x.about(1, 10), 0);
        due("out of the same", x.about(4, 0), 0);
        due("2 is out of the new one", x.about(2, 0), 4);
        due("3 is not", x.about(3, 0), 1);
        due("floors", x.about(1, 1) * 10 + x.about(4, 1), 61);
        due("old person and since", x.about(1, 6) * 10 + x.about(1, 7), 10);
        x.today(200);
        due("3 is over", x.part(1, 2, 5), 5);
        due("500 by 3, cut", x.about(5, 8), 166);
        due("stays", x.about(1, 8), 334);
        due("3 stays with the old one", x.about(3, 0), 1);
        fillHoldings();
        due("FULL", x.part(1, 4, 5), FULL);
        due("STATE ahead of FULL", x.part(3, 2, 5), STATE);
    }

    private static void end() {
        promise("8 end");
        house();
        x.lease(1, 2, 100, 200, 1);
        x.lease(1, 4, 0, 50, 1);
        due("2 is not 1", x.end(2, 3), NO);
        due("a WHOLE", x.end(0, 1), UNKNOWN);
        due("way 0", x.end(1, 0), OUTSIDE);
        due("way 2", x.end(1, 2), OUTSIDE);
        due("way 4", x.end(3, 4), OUTSIDE);
        due("not begun", x.end(3, 1), STATE);
        x.today(50);
        due("4 is over", x.end(4, 1), STATE);
        due("two move", x.end(1, 1), 2);
        due("way", x.about(1, 5), 1);
        due("until", x.about(1, 4), 50);
        due("to stays", x.about(1, 3), 36500);
        due("now out of the WHOLE", x.about(2, 0) + x.about(3, 0), 0);
        due("4 stays", x.about(4, 0), 1);
        x.today(100);
        due("merged: 1 is not 0", x.end(3, 3), NO);
        x.sell(0, 1);
        due("merged", x.end(3, 3), 0);
        due("way", x.about(3, 5), 3);
        due("again", x.end(3, 3), STATE);
    }

    private static void about() {
        promise("9 about");
        house();
        x.rent(1, 77, 8);
        x.breach(1, true);
        int[] whole = {-1, 7, 0, 73000, 73000, 0, 0, 0, 0, 0, NONE, 1};
        int[] lease = {0, 7, 0, 36500, 36500, 0, 1, 0, 77, 8, 0, 1};
        for (int what = 0; what < 12; what++) {
            due("whole " + what, x.about(0, what), whole[what]);
            due("lease " + what, x.about(1, what), lease[what]);
        }
        due("-1", x.about(0, -1), OUTSIDE);
        due("12", x.about(0, 12), OUTSIDE);
        due("no holding", x.about(3, 0), UNKNOWN);
        due("UNKNOWN first", x.about(-1, 99), UNKNOWN);
        x.today(5);
        x.end(2, 1);
        due("those that ended are out of it still", x.about(1, 11), 1);
    }

    private static void chain() {
        promise("10 chain");
        house();
        due("floor 0", x.chain(0, -1), 3);
        due("floor 1", x.chain(1, -1), 2);
        for (int i = 0; i < 3; i++) due("at " + i, x.chain(0, i), i);
        due("behind", x.chain(0, 3), NONE);
        due("-2", x.chain(0, -2), NONE);
        due("floor 3", x.chain(3, -1), 0);
        due("floor -1", x.chain(-1, 0), UNKNOWN);
        due("floor 12", x.chain(12, -1), UNKNOWN);
        x.today(3650);
        due("2 is over", x.chain(0, -1), 2);
        x.today(73000);
        due("nothing is in force at the END", x.chain(0, -1), 0);
        due("none", x.chain(0, 0), NONE);
    }

    private static void live() {
        promise("11 live");
        due("first", x.live(0, 11), NONE);
        due("moves", x.live(0, 0), 11);
        due("goes", x.live(0, -1), 0);
        due("nowhere", x.live(0, 3), NONE);
        due("floor 12", x.live(0, 12), UNKNOWN);
        due("floor -2", x.live(0, -2), UNKNOWN);
        due("person 10", x.live(10, 0), UNKNOWN);
        due("person -1", x.live(-1, 0), UNKNOWN);
        due("kept", x.live(0, 3), 3);
    }

    private static void rent() {
        promise("12 rent");
        house();
        due("first", x.rent(1, 100000, 100), 0);
        due("was", x.rent(1, 0, 0), 100000);
        due("amount", x.rent(1, 100001, 0), OUTSIDE);
        due("below", x.rent(1, -1, 0), OUTSIDE);
        due("doubles", x.rent(1, 5, 101), OUTSIDE);
        due("doubles below", x.rent(1, 5, -1), OUTSIDE);
        due("a WHOLE", x.rent(0, 5, 5), UNKNOWN);
        due("none", x.rent(3, 5, -1), UNKNOWN);
        x.end(2, 1);
        due("of one that ended too", x.rent(2, 5, 5), 0);
        due("kept", x.about(2, 8), 5);
    }

    private static void rate() {
        promise("13 rate");
        x.whole(1, 0);
        x.lease(0, 1, 10, 73000, 1);
        x.rent(1, 3, 2);
        due("ahead", x.rate(1, 9), 0);
        due("from", x.rate(1, 10), 3);
        due("739", x.rate(1, 739), 3);
        due("740", x.rate(1, 740), 6);
        due("9 times", x.rate(1, 10 + 7300 - 1), 3 * 512);
        due("10 times", x.rate(1, 10 + 7300), 3 * 1024);
        due("no more", x.rate(1, 72999), 3 * 1024);
        due("END", x.rate(1, 73000), 0);
        due("-1", x.rate(1, -1), OUTSIDE);
        due("73001", x.rate(1, 73001), OUTSIDE);
        due("none", x.rate(2, -1), UNKNOWN);
        due("a WHOLE", x.rate(0, 5), 0);
        x.rent(1, 3, 0);
        due("never doubles", x.rate(1, 72999), 3);
        x.today(100);
        x.end(1, 1);
        due("as it ended", x.rate(1, 100), 0);
        due("ahead of that", x.rate(1, 99), 3);
    }

    private static void owed() {
        promise("14 owed");
        x.whole(1, 0);
        x.lease(0, 1, 100, 1000, 1);
        x.rent(1, 364, 1);
        due("one day", x.owed(1, 100, 101), 0);
        due("two days", x.owed(1, 100, 102), 1);
        due("ahead", x.owed(1, 0, 100), 0);
        due("none", x.owed(1, 200, 200), 0);
        due("a year", x.owed(1, 0, 465), 364);
        due("a day doubled", x.owed(1, 464, 466), (364 + 728) / 365);
        due("all", x.owed(1, 0, 73000), (364 * 365 + 728 * 365 + 1456 * 170) / 365);
        due("behind", x.owed(1, 1000, 73000), 0);
        due("turned", x.owed(1, 5, 4), LOST - 2);
        due("below 0", x.owed(1, -1, 4), LOST - 2);
        due("beyond", x.owed(1, 0, 73001), LOST - 2);
        due("no holding", x.owed(2, 5, 4), LOST - 1);
        due("a WHOLE", x.owed(0, 0, 73000), 0);
        x.lease(0, 1, 1000, 73000, 1);
        x.rent(2, 73, 2);
        due("no more than 10 times", x.owed(2, 1000 + 20 * 365, 1000 + 24 * 365), 73 * 1024 * 4);
        due("the 10th", x.owed(2, 1000 + 20 * 365 - 5, 1000 + 20 * 365 + 5), 512 + 1024);
        due("the 1st", x.owed(2, 0, 1005), 1);
        x.rent(1, 365, 0);
        due("never doubles, from", x.owed(1, 0, 101), 1);
        due("never doubles", x.owed(1, 150, 160), 10);
        x.today(155);
        x.end(1, 1);
        due("till it ended", x.owed(1, 150, 160), 5);
    }

    private static void weight() {
        promise("15 weight");
        due("first", x.weight(0, 100), 1);
        due("was", x.weight(0, 1), 100);
        due("0", x.weight(0, 0), OUTSIDE);
        due("101", x.weight(0, 101), OUTSIDE);
        due("floor 12", x.weight(12, 0), UNKNOWN);
        due("floor -1", x.weight(-1, 5), UNKNOWN);
        due("floor 11", x.weight(11, 9), 1);
        due("told", x.told(41), 9);
    }

    private static void say() {
        promise("16 say");
        due("33", x.say(33), 1);
        due("126", x.say(126), 2);
        due("32", x.say(32), OUTSIDE);
        due("127", x.say(127), OUTSIDE);
        due("65536 + l", x.say(65536 + 'l'), OUTSIDE);
        for (int i = 3; i <= 48; i++) due("sign " + i, x.say('l'), i);
        due("49", x.say('l'), FULL);
        due("OUTSIDE ahead of FULL", x.say(0), OUTSIDE);
    }

    private static void wipe() {
        promise("17 wipe");
        due("none", x.wipe(), 0);
        text("abc");
        due("three", x.wipe(), 3);
        due("gone", x.told(1), 0);
    }

    private static void fault() {
        promise("18 fault");
        String[] whole = {"l<9", "t=00000", "h>99999", "!r<1", "!!!f=1", "((o=0))", "l<1|t>2&h=3|!(s=1&r<9)", "(l<1)&(t<2)"};
        for (String signs : whole) {
            text(signs);
            due(signs, x.fault(), NONE);
        }
        String[] started = {"", "l", "l<", "!", "(", "((l<1)", "l<1&", "l<1|", "l<1|!", "(l<1"};
        for (String signs : started) {
            text(signs);
            due(signs, x.fault(), signs.length());
        }
        String[] broken = {")", "x", "9", "l9", "l!", "l<x", "l<)", "l<1)", "l<123456", "l<1l", "l<1!", "l<1(", "(l<1)9",
            "(l<1)(", "()", "!)", "!&", "l<1&&", "l<1||", "&", "|", "<", "(l<1))", "ll", "L"};
        int[] places = {0, 0, 0, 1, 1, 2, 2, 3, 7, 3, 3, 3, 5, 5, 1, 1, 1, 4, 4, 0, 0, 0, 5, 1, 0};
        for (int i = 0; i < broken.length; i++) {
            text(broken[i]);
            due(broken[i], x.fault(), places[i]);
            x.say('l');
            due(broken[i] + "l", x.fault(), places[i]);
        }
    }

    private static void act() {
        promise("19 act");
        text("l<9");
        due("kind -1", x.act(-1, -1), UNKNOWN);
        due("kind 4", x.act(4, 0), UNKNOWN);
        due("day -1", x.act(0, -1), OUTSIDE);
        due("day 73001", x.act(0, 73001), OUTSIDE);
        due("kept", x.told(1), 3);
        due("passes", x.act(3, 73000), 1);
        due("empty then", x.told(1), 0);
        due("no text", x.act(0, 0), NO);
        text("l<");
        due("not whole", x.act(0, 0), NO);
        due("kept as refused", x.wipe(), 2);
        for (int i = 2; i <= 12; i++) {
            text("l<9");
            due("act " + i, x.act(i % 4, 5), i);
        }
        due("FULL ahead of NO", x.act(0, 5), FULL);
        due("OUTSIDE ahead of FULL", x.act(0, -5), OUTSIDE);
        due("told", x.told(2), 12);
    }

    private static void right() {
        promise("20 right");
        house();
        due("no act", x.right(1, 0), NONE);
        due("no holding", x.right(3, 0), UNKNOWN);
        due("kind 4", x.right(1, 4), UNKNOWN);
        due("kind -1", x.right(1, -1), UNKNOWN);
        law(0, 10, "o>0");
        due("not yet", x.right(1, 0), NONE);
        x.today(10);
        due("so", x.right(1, 0), 1);
        due("a WHOLE", x.right(0, 0), 0);
        due("another kind", x.right(1, 1), NONE);
        law(0, 9, "o=0");
        due("the later day counts", x.right(1, 0), 1);
        law(0, 10, "o=0");
        due("of one day the last told", x.right(1, 0), 0);
        due("a WHOLE now", x.right(0, 0), 1);
        law(0, 11, "o>0");
        x.today(11);
        due("the next day", x.right(1, 0), 1);
        String[] so = {"f=3&o=1&t=100", "f=4|o=1", "f=3|o=9&t=1", "!f=4", "!(f=4|o=2)", "!!f=3", "(f=4|f=3)&o=1", "f<4&f>2",
            "f=3|f=3&f=4", "!f=4&f=3", "!(f=4)&(f=3)", "!f=4&!(!f=3&f=3)", "f=4|(f=4|!f=4)&f=3", "((((((((((((((((((((((f=3))))))))))))))))))))))"};
        String[] not = {"f=4&o=1", "f=4|o=9", "(f=3|o=1)&t=9", "!f=3", "!(f=4|o=1)", "f<3", "f>3", "!(f=3)&o=1", "f=4&f=3|f=5"};
        for (String signs : so) {
            x = new LeaseLand();
            house();
            law(1, 0, signs);
            due(signs, x.right(1, 1), 1);
        }
        for (String signs : not) {
            x = new LeaseLand();
            house();
            law(1, 0, signs);
            due(signs, x.right(1, 1), 0);
        }
        x.today(3650);
        due("over", x.right(2, 1), STATE);
        due("STATE ahead of NONE", x.right(2, 3), STATE);
        due("NONE", x.right(1, 3), NONE);
    }

    private static void decisive() {
        promise("21 decisive");
        house();
        due("no act", x.decisive(1, 0), NONE);
        due("kind", x.decisive(1, 4), UNKNOWN);
        due("no holding", x.decisive(4, 0), UNKNOWN);
        law(0, 0, "f=3&o=1");
        due("both", x.decisive(1, 0), 3);
        law(0, 0, "f=3|o=1");
        due("none alone", x.decisive(1, 0), 0);
        law(0, 0, "f=4&o=2");
        due("neither", x.decisive(1, 0), 0);
        law(0, 0, "f=4|o=2|!t=100");
        due("each", x.decisive(1, 0), 7);
        law(0, 0, "!(f=4&o=1)|t=1&h=0");
        due("the first, for the third stands by", x.decisive(1, 0), 1);
        law(0, 0, "l=1|l=2|l=3|l=4|l=5|l=6|l=7|l=8|l=9|t=1|t=2|t=3");
        due("twelve", x.decisive(1, 0), 4095);
        x.today(3650);
        due("over", x.decisive(2, 0), STATE);
    }

    private static void fact() {
        promise("22 fact");
        x.whole(7, 0);
        x.lease(0, 7, 0, 1000, 1);
        x.rent(1, 50, 1);
        x.lease(1, 3, 0, 1000, 2);
        due("t", x.fact(1, 't'), 2);
        due("l", x.fact(1, 'l'), 2);
        x.today(271);
        due("l, 729 days", x.fact(1, 'l'), 1);
        due("h", x.fact(1, 'h'), 0);
        x.today(365);
        due("h, a year", x.fact(1, 'h'), 1);
        due("r, doubled", x.fact(1, 'r'), 100);
        due("f", x.fact(2, 'f'), 2);
        due("o", x.fact(2, 'o') * 100 + x.fact(1, 'o') * 10 + x.fact(0, 'o'), 210);
        x.sell(1, 3);
        due("h since", x.fact(1, 'h'), 0);
        due("s", x.fact(1, 's'), 0);
        x.live(3, 2);
        due("s on one of its floors", x.fact(1, 's'), 1);
        x.live(3, 3);
        due("s on another", x.fact(1, 's'), 0);
        due("sign", x.fact(1, 'x'), OUTSIDE);
        due("sign l and 65536", x.fact(1, 65536 + 'l'), OUTSIDE);
        due("sign -1", x.fact(1, -1), OUTSIDE);
        due("no holding", x.fact(3, 'x'), UNKNOWN);
        due("WHOLE t", x.fact(0, 't'), 200);
        x.lease(0, 8, 365, 365 + 729, 1);
        x.lease(1, 4, 365, 365 + 366, 1);
        due("t from its from on", x.fact(3, 't'), 1);
        x.today(1000);
        due("over", x.fact(1, 'l'), STATE);
        due("OUTSIDE first", x.fact(1, 'x'), OUTSIDE);
    }

    private static void first() {
        promise("23 first");
        x.whole(3, 0);
        x.lease(0, 1, 500, 2000, 1);
        due("no act", x.first(1, 0), NONE);
        law(0, 700, "o=1");
        due("as the act is in force", x.first(1, 0), 700);
        law(0, 100, "o=1");
        due("as it begins", x.first(1, 0), 500);
        due("the WHOLE never", x.first(0, 0), NONE);
        law(1, 999, "f>0");
        due("the 1000th", x.first(0, 1), 999);
        law(2, 1000, "f>0");
        due("the 1001st", x.first(0, 2), NONE);
        x.today(1);
        due("a day on", x.first(0, 2), 1000);
        due("no holding", x.first(2, 0), UNKNOWN);
        due("kind", x.first(0, 4), UNKNOWN);
        due("kind -1", x.first(0, -1), UNKNOWN);
        law(3, 0, "l<1");
        x.today(1000);
        due("fewer YEARS left", x.first(1, 3), 2000 - 364);
        law(3, 0, "h>1");
        due("YEARS with it", x.first(1, 3), 500 + 730);
        x.today(2000);
        due("over", x.first(1, 3), NONE);
        x.today(72500);
        law(1, 72999, "f=2");
        due("the last day", x.first(0, 1), 72500);
        law(1, 72500, "f=9");
        due("from the act of 72999", x.first(0, 1), 72999);
        law(1, 72999, "f=9");
        due("none up to the END", x.first(0, 1), NONE);
        x.today(73000);
        due("END", x.first(0, 1), NONE);
    }

    private static void notice() {
        promise("24 notice");
        house();
        due("no act is a lack of the right", x.notice(1, 0), -201);
        law(0, 0, "o=1");
        law(1, 0, "f>0");
        due("not the right", x.notice(2, 0), -201);
        due("first", x.notice(1, 0), 0);
        due("one there is", x.notice(1, 0), -202);
        due("another kind", x.notice(1, 1), 1);
        due("another lease", x.notice(2, 1), 2);
        due("a WHOLE", x.notice(0, 0), UNKNOWN);
        due("none", x.notice(3, 2), UNKNOWN);
        due("kind 2", x.notice(1, 2), OUTSIDE);
        due("kind -1", x.notice(1, -1), OUTSIDE);
        x.answer(0, false);
        due("a REFUSED one there is", x.notice(1, 0), -202);
        x.today(10);
        x.withdraw(0);
        due("withdrawn", x.notice(1, 0), -203);
        x.today(374);
        due("364 days", x.notice(1, 0), -203);
        due("the lack of the right first", x.notice(2, 0), -201);
        x.today(375);
        due("365 days", x.notice(1, 0), 3);
        x.answer(3, true);
        due("an AGREED one there is", x.notice(1, 0), -202);
        x.carry(3);
        due("DONE is none", x.notice(1, 0), 4);
        x.answer(4, false);
        x.tribunal(4, false);
        due("LOST is none", x.notice(1, 0), 5);
        due("count", x.told(3), 6);
        x.today(3650);
        due("over", x.notice(2, 0), STATE);
        promise("24 notice, many");
        x.whole(4095, 0);
        law(0, 0, "f=1");
        law(1, 0, "f=1");
        for (int f = 0; f < 12; f++) x.lease(0, 1 << f, 0, 9000, 1);
        for (int i = 0; i < 24; i++) due("notice " + i, x.notice(1 + i % 12, i / 12), i);
        due("FULL ahead of a lack", x.notice(1, 0), FULL);
        due("OUTSIDE ahead of FULL", x.notice(1, 2), OUTSIDE);
    }

    private static void answer() {
        promise("25 answer");
        house();
        law(0, 0, "f>0");
        x.notice(1, 0);
        x.notice(2, 0);
        due("no", x.answer(0, false), 1);
        due("REFUSED", x.status(0), 2);
        due("again", x.answer(0, true), STATE);
        x.today(59);
        due("the 59th day", x.answer(1, true), 1);
        due("AGREED", x.status(1), 1);
        due("none", x.answer(2, true), UNKNOWN);
        due("-1", x.answer(-1, true), UNKNOWN);
        promise("25 answer, silence");
        house();
        law(0, 0, "f>0");
        x.notice(1, 0);
        x.today(60);
        due("the 60th day", x.answer(0, false), STATE);
    }

    private static void withdraw() {
        promise("26 withdraw");
        house();
        law(0, 0, "f>0");
        law(1, 0, "f>0");
        x.notice(1, 0);
        x.notice(2, 0);
        x.notice(1, 1);
        x.notice(2, 1);
        x.answer(1, false);
        x.answer(2, true);
        for (int n = 0; n < 3; n++) {
            due("OPEN, REFUSED, AGREED " + n, x.withdraw(n), 1);
            due("WITHDRAWN", x.status(n), 3);
            due("again", x.withdraw(n), STATE);
        }
        x.today(60);
        due("AGREED by silence", x.withdraw(3), 1);
        due("none", x.withdraw(4), UNKNOWN);
        x.today(500);
        x.notice(1, 0);
        x.answer(4, false);
        x.tribunal(4, false);
        due("LOST", x.withdraw(4), STATE);
        x.notice(1, 0);
        x.answer(5, true);
        x.carry(5);
        due("DONE", x.withdraw(5), STATE);
    }

    private static void tribunal() {
        promise("27 tribunal");
        house();
        law(0, 0, "f>0");
        x.notice(1, 0);
        due("OPEN", x.tribunal(0, true), STATE);
        x.answer(0, false);
        x.today(400);
        due("no time is set", x.tribunal(0, true), 1);
        due("AGREED", x.status(0), 1);
        due("again", x.tribunal(0, false), STATE);
        x.notice(2, 0);
        x.answer(1, false);
        due("no", x.tribunal(1, false), 1);
        due("LOST", x.status(1), 5);
        due("none", x.tribunal(2, false), UNKNOWN);
    }

    private static void status() {
        promise("28 status");
        house();
        law(0, 0, "f>0");
        x.today(7);
        x.notice(1, 0);
        due("OPEN", x.status(0), 0);
        x.today(66);
        due("59 days", x.status(0), 0);
        x.today(67);
        due("60 days", x.status(0), 1);
        x.carry(0);
        due("DONE", x.status(0), 4);
        due("none", x.status(1), UNKNOWN);
        due("-1", x.status(-1), UNKNOWN);
        due("least", x.status(FEW), UNKNOWN);
    }

    private static void carryLonger() {
        promise("29 carry LONGER");
        house();
        x.rent(2, 40, 5);
        x.rent(1, 30, 5);
        law(0, 0, "f>0");
        x.notice(2, 0);
        due("OPEN", x.carry(0), STATE);
        x.answer(0, true);
        due("done", x.carry(0), 1);
        due("to", x.about(2, 3), 3650 + 32850);
        due("1's to is just that already", x.about(1, 3), 36500);
        due("amount", x.about(2, 8), 0);
        due("1's stays", x.about(1, 8), 30);
        due("doubling stays", x.about(2, 9), 5);
        due("none", x.carry(1), UNKNOWN);
        x.notice(2, 0);
        x.answer(1, true);
        due("beyond 1", x.carry(1), 1);
        due("2 and 1 end on one day", x.about(2, 3) * 100000L + x.about(1, 3), 69350 * 100000L + 69350);
        x.notice(2, 0);
        x.answer(2, true);
        due("to the END", x.carry(2), 1);
        due("to", x.about(2, 3), 73000);
        x.notice(2, 0);
        x.answer(3, true);
        x.end(2, 1);
        due("not in force", x.carry(3), STATE);

        promise("29 carry LONGER, in the way");
        house();
        law(0, 0, "f>0");
        x.lease(1, 3, 36499, 36500, 5);
        x.notice(2, 0);
        x.answer(0, true);
        due("3 is in the way on one day", x.carry(0), NO);
        due("nothing changed", x.about(2, 3) * 10 + x.status(0), 36501);
        x.today(61);
        x.notice(1, 0);
        x.answer(1, true);
        x.lease(0, 1, 50000, 50001, 5);
        due("in the way of 1", x.carry(1), NO);

        promise("29 carry LONGER, in the way of what it is out of");
        house();
        law(0, 0, "f>0");
        x.lease(1, 6, 0, 36500, 5);
        x.lease(0, 4, 36501, 36502, 6);
        x.notice(3, 0);
        x.answer(0, true);
        due("1 can't go on", x.carry(0), NO);
        x.notice(2, 0);
        x.answer(1, true);
        due("2 needs no more of 1", x.carry(1), 1);
    }

    private static void carryBuy() {
        promise("29 carry BUY");
        x.whole(3, 0);
        x.lease(0, 3, 0, 9000, 1);
        x.lease(1, 3, 0, 9000, 2);
        x.lease(2, 3, 0, 5000, 3);
        x.lease(3, 1, 0, 5000, 4);
        x.lease(2, 3, 5000, 6000, 5);
        x.lease(5, 1, 5100, 5900, 6);
        x.lease(3, 2, 0, 10, 7);
        law(1, 0, "o=3|o=4");
        due("notice", x.notice(3, 1), 0);
        due("of the one below", x.notice(4, 1), 1);
        x.today(10);
        x.answer(0, true);
        x.answer(1, true);
        due("other floors", x.carry(1), NO);
        due("done", x.carry(0), 1);
        due("it is MERGED", x.about(3, 5) * 100 + x.about(3, 4), 310);
        due("1 is bought out", x.about(1, 5) * 100 + x.about(1, 4), 510);
        due("2 is bought out", x.about(2, 5) * 100 + x.about(2, 4), 510);
        due("the WHOLE's person", x.about(0, 6), 3);
        due("since", x.about(0, 7), 10);
        due("4 is out of the WHOLE", x.about(4, 0) * 10 + x.about(4, 5), 0);
        due("7 is over: it stays", x.about(7, 0), 3);
        due("5 fell, on its from", x.about(5, 5) * 10000 + x.about(5, 4), 45000);
        due("6 too", x.about(6, 5) * 10000 + x.about(6, 4), 45100);
        due("DONE", x.status(0), 4);
        due("again", x.carry(0), STATE);
        due("chain", x.chain(0, -1), 2);

        promise("29 carry BUY, right below the WHOLE");
        x.whole(3, 0);
        x.lease(0, 1, 0, 9000, 1);
        law(1, 0, "f>0");
        x.notice(1, 1);
        x.answer(0, true);
        due("the WHOLE has another floor", x.carry(0), NO);
        due("AGREED still", x.status(0), 1);
    }

    private static void stay() {
        promise("30 stay");
        house();
        due("no act", x.stay(2), NO);
        law(2, 3650, "f>0");
        due("the act is too late", x.stay(2), NO);
        law(2, 3649, "t=10&l=0&h=9");
        due("stays", x.stay(2), 36500 - 3650);
        due("to", x.about(2, 3), 36500);
        due("a WHOLE", x.stay(0), UNKNOWN);
        due("none", x.stay(3), UNKNOWN);
        law(2, 0, "f>0");
        law(2, 3649, "f>0");
        x.lease(1, 6, 0, 100, 4);
        x.lease(1, 4, 200, 300, 5);
        due("one in the way", x.stay(3), NO);
        x.lease(1, 2, 100, 200, 6);
        x.today(100);
        due("TODAY is its to", x.stay(3), NO);
        x.today(101);
        due("later", x.stay(3), STATE);
        x.end(2, 1);
        due("ended", x.stay(2), STATE);
        due("none in the way of floor 1", x.stay(5), 36300);
        x.today(300);
        due("the last day", x.stay(4), 36200);
        due("none more", x.stay(4), 0);
        due("not yet begun", x.lease(0, 7, 36500, 40000, 7), 6);
        due("it may stay, too", x.stay(6), 33000);
    }

    private static void value() {
        promise("31 value");
        due("first", x.value(11, 1000000), 0);
        due("was", x.value(11, 0), 1000000);
        due("beyond", x.value(11, 1000001), OUTSIDE);
        due("below", x.value(11, -1), OUTSIDE);
        due("floor 12", x.value(12, -1), UNKNOWN);
        due("floor -1", x.value(-1, 1), UNKNOWN);
    }

    private static void point() {
        promise("32 point");
        due("years 0", x.point(0, 5), OUTSIDE);
        due("first", x.point(1, 0), 1);
        due("the same", x.point(1, 0), OUTSIDE);
        due("t", x.point(2, 10001), OUTSIDE);
        due("t below", x.point(2, -1), OUTSIDE);
        due("years 201", x.point(201, 1), OUTSIDE);
        for (int i = 2; i <= 10; i++) due("point " + i, x.point(i, 10000), i);
        due("FULL", x.point(11, 1), FULL);
        due("OUTSIDE ahead of FULL", x.point(10, 1), OUTSIDE);
    }

    private static void blank() {
        promise("33 blank");
        due("none", x.blank(), 0);
        x.point(200, 5);
        due("one", x.blank(), 1);
        due("gone", x.told(4), 0);
        due("years may begin again", x.point(1, 5), 1);
    }

    private static void table() {
        promise("34 table");
        due("no points", x.table(0), 10000);
        x.point(3, 10);
        x.point(7, 4);
        due("0", x.table(0), 0);
        due("1", x.table(1), 3);
        due("2", x.table(2), 6);
        due("3", x.table(3), 10);
        due("4: 8.5", x.table(4), 8);
        due("5", x.table(5), 7);
        due("6: 5.5", x.table(6), 5);
        due("7", x.table(7), 4);
        due("behind", x.table(200), 4);
        due("201", x.table(201), OUTSIDE);
        due("-1", x.table(-1), OUTSIDE);
    }

    private static void worth() {
        promise("35 worth");
        house();
        x.value(0, 999);
        x.value(1, 1);
        x.value(5, 1000000);
        x.point(10, 5000);
        x.point(100, 9999);
        due("2", x.worth(2), 499);
        due("1", x.worth(1), 999);
        due("the WHOLE", x.worth(0), 999);
        x.today(1);
        due("9 years left", x.worth(2), 449);
        due("none", x.worth(3), UNKNOWN);
        x.today(3650);
        due("over", x.worth(2), STATE);
        x = new LeaseLand();
        x.whole(4095, 0);
        for (int f = 0; f < 12; f++) x.value(f, 1000000);
        due("the most", x.worth(0), 12000000);
    }

    private static void sale() {
        promise("36 sale");
        due("years -1", x.sale(-1, 0), OUTSIDE);
        due("years 201", x.sale(201, 0), OUTSIDE);
        due("t", x.sale(0, 10001), OUTSIDE);
        due("t below", x.sale(0, -1), OUTSIDE);
        for (int i = 1; i <= 20; i++) due("sale " + i, x.sale(i % 2 * 200, 10000), i);
        due("FULL", x.sale(0, 0), FULL);
        due("OUTSIDE ahead of FULL", x.sale(-1, 0), OUTSIDE);
    }

    private static void learned() {
        promise("37 learned");
        due("none", x.learned(5, -1, 0), LOST - 3);
        x.sale(1, 1);
        x.sale(2, 3);
        x.sale(3, 2);
        due("middle", x.learned(2, -1, 0), 2);
        due("middle, lower", x.learned(2, -1, 1), 1);
        due("5/2", x.learned(3, -1, 0), 5);
        due("2", x.learned(3, -1, 1), 2);
        due("at 0: 1", x.learned(0, -1, 0), 1);
        due("without the last: 2x-1, at 0", x.learned(0, 2, 0), -1);
        due("lower", x.learned(0, 2, 1), 1);
        due("without the first: -x+5, at 5 is 0", x.learned(5, 0, 0), 0);
        due("0 by 1", x.learned(5, 0, 1), 1);
        due("below 0", x.learned(200, 0, 0), -195);
        due("no sale 3", x.learned(5, 3, 0), LOST - 1);
        due("sale -2", x.learned(5, -2, 9), LOST - 1);
        due("years", x.learned(201, -1, 0), LOST - 2);
        due("years below", x.learned(-1, -1, 0), LOST - 2);
        due("part", x.learned(5, -1, 2), LOST - 2);
        due("part below", x.learned(5, -1, -1), LOST - 2);
        x = new LeaseLand();
        x.sale(4, 1);
        x.sale(4, 9);
        x.sale(5, 1);
        due("alike without 2", x.learned(5, 2, 0), LOST - 3);
        due("OUTSIDE first", x.learned(5, 2, 2), LOST - 2);
        due("two unlike", x.learned(4, 0, 0), 9);
    }

    private static void doubt() {
        promise("38 doubt");
        due("none", x.doubt(0), LOST - 3);
        due("part ahead", x.doubt(2), LOST - 2);
        due("part -1", x.doubt(-1), LOST - 2);
        x.sale(1, 1);
        due("one", x.doubt(1), LOST - 3);
        x.sale(2, 3);
        due("on the line", x.doubt(0), 0);
        due("0 by 1", x.doubt(1), 1);
        x.sale(3, 2);
        due("off by 1", x.doubt(0), 1);
        due("by 1", x.doubt(1), 1);
        x.sale(4, 1);
        due("off by 6/5", x.doubt(0) * 100 + x.doubt(1), 605);
    }

    private static void doubtOfTheFirst() {
        promise("38 doubt, of the first and of the last");
        x.sale(5, 9);
        x.sale(5, 3);
        x.sale(5, 3);
        x.sale(6, 3);
        due("the first", x.doubt(0) * 100 + x.doubt(1), 401);
        x = new LeaseLand();
        x.sale(6, 3);
        x.sale(5, 3);
        x.sale(5, 3);
        x.sale(5, 9);
        due("the last", x.doubt(0) * 100 + x.doubt(1), 401);
    }

    private static void set() {
        promise("39 set");
        due("YP", x.set(0, 500), 100);
        due("DEFER", x.set(1, 100), 50);
        due("YP 501", x.set(0, 501), OUTSIDE);
        due("DEFER 101", x.set(1, 101), OUTSIDE);
        due("YP 0", x.set(0, 0), 500);
        due("DEFER 0", x.set(1, 0), 100);
        due("-1", x.set(0, -1), OUTSIDE);
        due("which 2", x.set(2, 1), OUTSIDE);
        due("which -1", x.set(-1, 1), OUTSIDE);
        due("told", x.told(7) + x.told(8), 0);
    }

    private static void priceHouse() {
        house();
        x.value(0, 10000);
        x.value(1, 77777);
        x.rent(2, 13, 0);
        x.rent(1, 7, 0);
        x.point(10, 1000);
        x.point(100, 9000);
        x.set(0, 55);
        x.set(1, 33);
    }

    private static void price() {
        promise("40 price");
        priceHouse();
        // worth now 1000, with 100 years 9000; losses 71 (13 x 5.5) and 38 (7 x 5.5) + 2970 (9000 x 0.33)
        due("GAIN", x.price(2, 1), 8000);
        due("LOSSES", x.price(2, 3), 71 + 38 + 2970);
        due("MARRIAGE", x.price(2, 2), (8000 - 3079) / 2);
        due("PRICE", x.price(2, 0), 3079 + 2460);
        due("a WHOLE", x.price(0, 0), LOST - 1);
        due("none", x.price(3, 9), LOST - 1);
        due("what 4", x.price(2, 4), LOST - 2);
        due("what -1", x.price(2, -1), LOST - 2);
        x.rent(2, 100000, 0);
        x.point(101, 8000);
        due("90 YEARS more, no more", x.price(2, 1), 8000);
        due("no MARRIAGE below 0", x.price(2, 2), 0);
        due("PRICE then", x.price(2, 0), 550000 + 38 + 2970);
        x.blank();
        x.point(10, 9000);
        x.point(100, 1000);
        due("GAIN may be below 0", x.price(2, 1), -8000);
        x.today(3650);
        due("over", x.price(2, 0), LOST - 3);
        due("OUTSIDE first", x.price(2, 4), LOST - 2);
    }

    private static void share() {
        promise("41 share");
        priceHouse();
        due("the nearest", x.share(2, 0), 71 + 2460 * 71 / 3079);
        due("the WHOLE has the rest", x.share(2, 1), 3008 + 2460 - 2460 * 71 / 3079);
        due("behind", x.share(2, 2), LOST - 6);
        due("-1", x.share(2, -1), LOST - 6);
        due("out of the WHOLE alone", x.share(1, 0), x.price(1, 0));
        x.between(1, 1, 0, 3650, 4);
        x.rent(3, 9, 0);
        due("three: the nearest", x.share(2, 0), 71 + (8000 - 3128) / 2 * 71 / 3128);
        due("three: the next", x.share(2, 1), 49 + (8000 - 3128) / 2 * 49 / 3128);
        due("three: the WHOLE", x.share(2, 2), x.price(2, 0) - x.share(2, 0) - x.share(2, 1));
        due("a WHOLE", x.share(0, 0), LOST - 1);
        due("none", x.share(9, 0), LOST - 1);
        x.set(0, 0);
        x.set(1, 0);
        due("no LOSSES", x.share(2, 0), 0);
        due("none of MARRIAGE", x.share(2, 1), 0);
        due("all MARRIAGE", x.share(2, 2), 4000);
        x.today(3650);
        due("over", x.share(2, 0), LOST - 3);
        due("STATE first", x.share(2, 7), LOST - 3);
    }

    /** A WHOLE of six floors, leases of one each to persons 1 to 6; those on floors 0 to 3 have the right. */
    private static void sixFloors() {
        x.whole(63, 0);
        for (int f = 0; f < 6; f++) x.lease(0, 1 << f, 0, f < 4 ? 3650 : 364, f + 1);
        law(3, 0, "t>5");
    }

    private static void may() {
        promise("42 may");
        sixFloors();
        due("three will", x.may(0, 0b0001110), 1);
        due("two will", x.may(0, 0b0000110), 0);
        due("persons without right don't count", x.may(0, 0b1100110), 0);
        due("all", x.may(0, 1023), 1);
        x.sell(1, 2);
        due("one with two floors", x.may(0, 0b0001100), 1);
        x.lease(1, 1, 0, 9, 8);
        due("the last of the chain has no right", x.may(0, 1023), 0);
        x.today(9);
        due("it is over", x.may(0, 0b0001100), 1);
        due("a LEASE", x.may(1, 0), UNKNOWN);
        due("none", x.may(9, 0), UNKNOWN);
        due("1024", x.may(0, 1024), OUTSIDE);
        due("-1", x.may(0, -1), OUTSIDE);
        law(3, 9, "o<9");
        x.today(400);
        due("four floors of six, the WHOLE is no LEASE", x.may(0, 1023), 1);
        x.today(73000);
        due("END", x.may(0, 1023), 0);
        promise("42 may, the first and the last person");
        x.whole(3, 5);
        x.lease(0, 1, 0, 9, 0);
        x.lease(0, 2, 0, 9, 9);
        law(3, 0, "f>0");
        due("person 0", x.may(0, 1), 1);
        due("person 9", x.may(0, 512), 1);
        due("persons 1 to 8", x.may(0, 510), 0);
        due("person 0 is fewest", x.more(0, 0), 1);
        due("person 9 alone was asked", x.more(0, 512), 0);
        x.end(1, 1);
        due("one floor of two is less than two thirds", x.may(0, 1023), 0);
        promise("42 may, no act");
        x.whole(1, 0);
        x.lease(0, 1, 0, 9, 1);
        due("none has the right", x.may(0, 1023), 0);
    }

    private static void more() {
        promise("43 more");
        sixFloors();
        due("three, the least", x.more(0, 0), 0b0001110);
        due("one more", x.more(0, 0b0010100), 0b0000010);
        due("none more", x.more(0, 0b0011100), 0);
        x.sell(4, 3);
        due("one with two floors and the least", x.more(0, 0), 0b0001010);
        due("two are fewer than the least bits", x.more(0, 0b0000010), 0b0001000);
        x.lease(1, 1, 0, 9, 8);
        due("none would do", x.more(0, 0), NONE);
        due("a LEASE", x.more(1, 0), UNKNOWN);
        due("1024", x.more(0, 1024), OUTSIDE);
        due("-1", x.more(0, -1), OUTSIDE);
    }

    private static void breach() {
        promise("44 breach");
        house();
        x.today(3);
        due("told", x.breach(1, true), 1);
        x.today(5);
        due("was so", x.breach(1, true), 0);
        due("keeps its day", x.about(1, 10), 3);
        due("mended", x.breach(1, false), 1);
        due("was so", x.breach(1, false), 0);
        due("NONE", x.about(1, 10), NONE);
        due("a WHOLE", x.breach(0, true), UNKNOWN);
        due("none", x.breach(3, true), UNKNOWN);
        x.today(3650);
        due("over", x.breach(2, true), STATE);
    }

    private static void forfeit() {
        promise("45 forfeit");
        house();
        x.lease(1, 2, 100, 200, 3);
        x.lease(3, 2, 110, 120, 4);
        x.lease(2, 1, 0, 20, 5);
        x.lease(2, 1, 20, 30, 6);
        due("no BREACH", x.forfeit(1), NO);
        x.breach(1, true);
        x.today(29);
        due("29 days", x.forfeit(1), NO);
        x.today(30);
        due("30 days", x.forfeit(1), 3);
        due("forfeit", x.about(1, 5) * 100 + x.about(1, 4), 230);
        due("2 fell", x.about(2, 5) * 100 + x.about(2, 4), 430);
        due("3 fell, on its from", x.about(3, 5) * 1000 + x.about(3, 4), 4100);
        due("4 fell, on its from", x.about(4, 5) * 1000 + x.about(4, 4), 4110);
        due("5 was over", x.about(5, 5), 0);
        due("6 was over that day", x.about(6, 5), 0);
        due("its BREACH stays", x.about(1, 10), 0);
        due("again", x.forfeit(1), STATE);
        due("a WHOLE", x.forfeit(0), UNKNOWN);
        due("none", x.forfeit(7), UNKNOWN);
        due("chain", x.chain(0, -1), 1);
        promise("45 forfeit, later");
        house();
        x.today(500);
        x.breach(2, true);
        x.today(529);
        due("29 days", x.forfeit(2), NO);
        x.today(530);
        due("30 days", x.forfeit(2), 0);
    }

    private static void relieve() {
        promise("46 relieve");
        house();
        x.lease(2, 1, 50, 60, 3);
        x.breach(1, true);
        x.breach(2, true);
        x.today(30);
        due("in force", x.relieve(1), STATE);
        due("forfeit 2", x.forfeit(2), 1);
        due("forfeit 1", x.forfeit(1), 0);
        due("what it is out of is not in force", x.relieve(2), NO);
        due("3 fell, it was not forfeit", x.relieve(3), STATE);
        x.today(210);
        due("180 days", x.relieve(1), 1);
        due("mended", x.about(1, 10), NONE);
        due("2 did not fall by that", x.about(2, 5), 2);
        due("now 2 and 3", x.relieve(2), 2);
        due("3 stands", x.about(3, 5) * 100 + x.about(3, 4), 60);
        due("2 stands", x.about(2, 5) * 10000 + x.about(2, 4), 3650);
        due("a WHOLE", x.relieve(0), UNKNOWN);
        due("none", x.relieve(4), UNKNOWN);

        promise("46 relieve, late");
        house();
        x.breach(1, true);
        x.today(30);
        x.forfeit(1);
        x.today(211);
        due("181 days", x.relieve(1), STATE);

        promise("46 relieve, once");
        house();
        x.breach(1, true);
        x.today(30);
        due("2 falls", x.forfeit(1), 1);
        due("2 stands", x.relieve(1), 2);
        x.end(2, 1);
        x.breach(1, true);
        x.today(60);
        due("none falls", x.forfeit(1), 0);
        due("2 was given up", x.relieve(1), 1);
        due("so it stays", x.about(2, 5), 1);

        promise("46 relieve, in the way");
        house();
        x.breach(2, true);
        x.today(30);
        x.forfeit(2);
        x.lease(1, 1, 3649, 3651, 4);
        due("on one day", x.relieve(2), NO);
        promise("46 relieve, behind its days");
        house();
        x.breach(2, true);
        x.today(30);
        x.forfeit(2);
        x.lease(1, 1, 3650, 3651, 4);
        x.lease(1, 1, 30, 40, 4);
        due("in the way till 40", x.relieve(2), NO);
        x.today(40);
        due("none", x.relieve(2), 1);
        promise("46 relieve, parted");
        house();
        x.breach(2, true);
        x.today(30);
        x.forfeit(2);
        x.part(1, 1, 5);
        due("1 has not its floor", x.relieve(2), NO);
    }

    private static void line() {
        promise("47 line");
        due("first", x.line(0, 9, 0, 1), 0);
        due("name 10", x.line(10, 0, 0, 1), OUTSIDE);
        due("name -1", x.line(-1, 0, 0, 1), OUTSIDE);
        due("of 10", x.line(0, 10, 0, 1), OUTSIDE);
        due("of -1", x.line(0, -1, 0, 1), OUTSIDE);
        due("one", x.line(3, 3, 0, 1), OUTSIDE);
        due("from is to", x.line(0, 1, 5, 5), OUTSIDE);
        due("to ahead", x.line(0, 1, 5, 4), OUTSIDE);
        due("from below", x.line(0, 1, -1, 4), OUTSIDE);
        due("to beyond", x.line(0, 1, 0, 73001), OUTSIDE);
        for (int i = 1; i < 12; i++) due("line " + i, x.line(0, 9, 0, 73000), i);
        due("FULL", x.line(0, 9, 0, 1), FULL);
        due("OUTSIDE ahead of FULL", x.line(0, 0, 0, 1), OUTSIDE);
    }

    private static void can() {
        promise("48 can");
        due("none", x.can(0), 1);
        due("no line 0", x.can(1), OUTSIDE);
        due("below", x.can(-1), OUTSIDE);
        x.line(1, 2, 0, 10);
        x.line(2, 3, 0, 10);
        x.line(3, 1, 0, 10);
        x.line(1, 4, 0, 10);
        x.line(2, 5, 1, 11);
        x.line(5, 6, 0, 11);
        due("two of three", x.can(0b000011), 1);
        due("in a ring", x.can(0b000111), 0);
        due("one name twice", x.can(0b001001), 0);
        due("begins too early", x.can(0b010001), 0);
        due("within", x.can(0b110000), 1);
        due("no ring without 0", x.can(0b001110), 1);
        due("beside a ring", x.can(0b100111), 0);
        due("beyond", x.can(64), OUTSIDE);
        due("most", x.can(MANY), OUTSIDE);
        x.line(6, 7, 0, 10);
        due("ends too late", x.can(0b1100000), 0);
        x = new LeaseLand();
        x.line(1, 2, 0, 10);
        x.line(2, 1, 0, 10);
        due("each out of the other", x.can(3), 0);
    }

    private static void doubted() {
        promise("49 doubted");
        due("none of none", x.doubted(0), 0);
        due("one set", x.doubted(-1), 1);
        due("-2", x.doubted(-2), NONE);
        x.line(1, 2, 0, 10);
        due("it can be", x.doubted(0), 0);
        x.line(2, 1, 0, 10);
        due("two", x.doubted(-1), 2);
        due("the least", x.doubted(0), 1);
        due("the other", x.doubted(1), 2);
        due("behind", x.doubted(2), NONE);
        x.line(1, 3, 0, 20);
        due("one of three will do: 0 alone", x.doubted(-1), 1);
        due("0", x.doubted(0), 1);
        x.line(1, 4, 0, 20);
        due("now two", x.doubted(-1), 2);
        due("0 and 2", x.doubted(0), 0b0101);
        due("0 and 3", x.doubted(1), 0b1001);
    }

    private static void told() {
        promise("50 told");
        house();
        x.today(9);
        law(0, 0, "f>0");
        law(0, 0, "f>0");
        x.notice(1, 0);
        text("abcde");
        for (int i = 1; i <= 4; i++) x.point(i, i);
        for (int i = 1; i <= 6; i++) x.sale(i, i);
        for (int i = 1; i <= 7; i++) x.line(i, 0, 0, 1);
        x.set(0, 8);
        x.set(1, 9);
        int[] all = {9, 3, 5, 2, 1, 4, 6, 7, 8, 9};
        for (int what = -1; what <= 8; what++) due("told " + what, x.told(what), all[what + 1]);
        for (int f = 0; f < 12; f++) {
            x.value(f, 100 + f);
            x.weight(f, 50 + f);
            due("VALUE " + f, x.told(10 + f), 100 + f);
            due("WEIGHT " + f, x.told(30 + f), 50 + f);
        }
        int[] others = {-2, 9, 22, 23, 29, 42, MANY, FEW};
        for (int what : others) due("told " + what, x.told(what), OUTSIDE);
    }
}
