/** The document from its first line to the end of its Terms: what of it no edge quotes, sentence by sentence. */
final class SentencesOfTermsTest extends Edges {
    public static void main(String[] args) {
        cityOfChains();
        ends();
        rentsAndActs();
        noticesAndWorths();
        joiningAndRegisters();
        calls512();
        refusals();
        everyCallRefused();
        years();
        cuts();
        holdings();
        leases();
        between();
        chains();
        mergedAndParted();
        rents();
        facts();
        faults();
        kinds();
        notices();
        done();
        staying();
        values();
        learned();
        price();
        joining();
        breaches();
        relief();
        register();
        constants();
        finish("from the first line to the end of the Terms");
    }

    // ---- what it is

    private static void cityOfChains() {
        edge(10, "Land of leaseholds: floors of a city held by chains of holdings, leases out of leases", "three in a row");
        house();
        due(3, "chain", 0, -1);
        for (int i = 0; i < 3; i++) due(i, "chain", 0, i);
        due(2, "chain", 1, -1);
        due(0, "chain", 3, -1);
        edge(5, "some put between", "one between a lease and what that was out of");
        house();
        due(3, "between", 1, 1, 0, 3650, 3);
        due(1, "about", 3, OUT);
        due(3, "about", 2, OUT);
        due(4, "chain", 0, -1);
        due(3, "chain", 0, 2);
        due(2, "chain", 0, 3);
    }

    private static void ends() {
        edge(9, "ends by time, by giving up, by forfeit, by one hand holding both", "one of each");
        due(0, "whole", 15, 0);
        due(1, "lease", 0, 1, 0, 40, 1);
        due(2, "lease", 0, 2, 0, 5000, 1);
        due(3, "lease", 0, 4, 0, 5000, 1);
        due(4, "lease", 0, 8, 0, 5000, 0);
        for (int floor = 0; floor < 4; floor++) due(2, "chain", floor, -1);
        due(1, "breach", 3, true);
        due(0, "today", 30);
        due(0, "end", 2, 1);
        due(0, "forfeit", 3);
        due(0, "end", 4, 3);
        due(2, "chain", 0, -1);
        due(30, "today", 40);
        for (int floor = 0; floor < 4; floor++) due(1, "chain", floor, -1);
        int[] ways = {0, 0, 1, 2, 3};
        for (int i = 1; i < 5; i++) {
            due(ways[i], "about", i, WAY);
            due(i == 1 ? 40 : 30, "about", i, UNTIL);
        }
    }

    private static void rentsAndActs() {
        edge(13, "rents that double", "each year");
        house();
        does("rent", 1, 100, 1);
        due(100, "rate", 1, 364);
        due(200, "rate", 1, 365);
        due(400, "rate", 1, 730);
        edge(7, "parted by floors", "weights 3, 1 and 1");
        due(0, "whole", 7, 0);
        due(1, "lease", 0, 7, 0, 36500, 1);
        does("weight", 0, 3);
        does("rent", 1, 100, 1);
        due(2, "part", 1, 1, 4);
        due(60, "about", 2, AMOUNT);
        due(40, "about", 1, AMOUNT);
        edge(20, "acts as small texts that tell who has a right on a day", "one act on two days");
        house();
        law(0, 0, "l>9");
        due(1, "right", 0, 0);
        due(1, "right", 1, 0);
        due(1, "right", 2, 0);
        does("today", 1);
        due(1, "right", 1, 0);
        due(0, "right", 2, 0);
        edge(21, "and which fact decides", "of two, one, the other, both, none");
        house();
        law(0, 0, "l<20&f=1");
        law(1, 0, "l<20|f=3");
        due(0, "decisive", 1, 0);
        due(3, "decisive", 2, 0);
        due(2, "decisive", 1, 1);
        due(1, "decisive", 2, 1);
    }

    private static void noticesAndWorths() {
        edge(28, "notices, answers, silence", "yes, no, nothing");
        house();
        law(0, 0, "f>0");
        law(1, 0, "f>0");
        due(0, "notice", 1, 0);
        due(1, "notice", 2, 0);
        due(2, "notice", 1, 1);
        due(1, "answer", 0, true);
        due(1, "answer", 1, false);
        does("today", 60);
        due(1, "status", 0);
        due(2, "status", 1);
        due(1, "status", 2);
        edge(29, "longer terms", "one");
        flat();
        law(0, 0, "f=1");
        carried(0);
        due(33850, "about", 1, TO);
        edge(29, "the whole bought", "by the one lease");
        flat();
        law(1, 0, "f=1");
        carried(1);
        due(1, "about", 0, PERSON);
        due(3, "about", 1, WAY);
        due(1, "chain", 0, -1);
        edge(35, "what a term is worth by a table", "half the years, half of it");
        due(0, "whole", 3, 0);
        due(1, "lease", 0, 1, 0, 36500, 1);
        due(2, "lease", 0, 2, 0, 18250, 1);
        does("value", 0, 1000);
        does("value", 1, 1000);
        does("point", 100, 5000);
        due(500, "worth", 1);
        due(250, "worth", 2);
        edge(37, "or as sales teach", "between two sales");
        does("sale", 10, 1000);
        does("sale", 20, 2000);
        due(1500, "learned", 15, -1, 0);
        due(1, "learned", 15, -1, 1);
        edge(40, "prices and each landlord's share", "two landlords");
        landlords();
        due(300, "price", 2, 0);
        edge(41, "prices and each landlord's share", "two landlords");
        landlords();
        due(200, "share", 2, 0);
        due(100, "share", 2, 1);
    }

    /** A WHOLE 0 of floor 0, person 0; a LEASE 1 out of it till day 1000, person 1. */
    private static void flat() {
        due(0, "whole", 1, 0);
        due(1, "lease", 0, 1, 0, 1000, 1);
    }

    private static void carried(int kind) {
        due(0, "notice", 1, kind);
        due(1, "answer", 0, true);
        due(1, "carry", 0);
    }

    private static void landlords() {
        due(0, "whole", 1, 0);
        due(1, "lease", 0, 1, 0, 36500, 1);
        due(2, "lease", 1, 1, 0, 18250, 2);
        does("value", 0, 1000);
        does("rent", 1, 10, 0);
        does("rent", 2, 20, 0);
    }

    private static void joiningAndRegisters() {
        edge(43, "how many more must join to buy a house", "two, one, none");
        due(0, "whole", 15, 9);
        for (int i = 1; i < 5; i++) due(i, "lease", 0, 1 << i - 1, 0, 9000, i);
        law(3, 0, "f=1");
        due(6, "more", 0, 0);
        due(2, "more", 0, 1 << 4);
        due(0, "more", 0, 6);
        edge(46, "breaches, forfeits, relief", "one after the other");
        flat();
        due(1, "breach", 1, true);
        does("today", 30);
        due(0, "forfeit", 1);
        due(1, "chain", 0, -1);
        due(1, "relieve", 1);
        due(2, "chain", 0, -1);
        edge(48, "registers that can not all be", "one name twice");
        due(0, "line", 1, 2, 0, 10);
        due(1, "line", 1, 3, 0, 10);
        due(1, "can", 1);
        due(1, "can", 2);
        due(0, "can", 3);
        edge(49, "the fewest lines to doubt", "one name twice");
        due(0, "line", 1, 2, 0, 10);
        due(1, "line", 1, 3, 0, 10);
        due(2, "doubted", -1);
        due(1, "doubted", 0);
        due(2, "doubted", 1);
    }

    private static void calls512() {
        String most = "An object is used for at most 512 calls after it has been made; what later calls answer is free";
        edge(1, most, "the 512th is one of them");
        for (int i = 0; i < 512; i++) due(i, "today", i + 1);
        edge(1, most, "all is as full as can be then");
        int made = brim();
        for (int i = made; i < 504; i++) due(0, "rate", 0, i);
        int[] most40 = {40, 48, 12, 24, 10, 20, 12};
        for (int what = 0; what < 7; what++) due(most40[what], "told", what);
        due(1, "decisive", 1, 1);
    }

    /** As much of everything as can be; how many calls that took. */
    private static int brim() {
        does("whole", 4095, 0);
        for (int i = 0; i < 39; i++) does("lease", 0, 1 << i % 12, i / 12 * 500, i / 12 * 500 + 500, i % 10);
        for (int i = 0; i < 12; i++) {
            for (char sign : "f=1|l>99|f=2".toCharArray()) does("say", (int) sign);
            does("act", i % 4, 0);
        }
        for (int i = 0; i < 48; i++) does("say", (int) '!');
        for (int i = 1; i <= 12; i++) {
            does("notice", i, 0);
            does("notice", i, 1);
        }
        for (int i = 0; i < 10; i++) does("point", i * 7 + 1, i * 5);
        for (int i = 0; i < 20; i++) does("sale", i, i * i);
        for (int i = 0; i < 12; i++) does("line", i % 10, (i + 3) % 10, i, 100);
        return 40 + 12 * 13 + 48 + 24 + 10 + 20 + 12;
    }

    // ---- refused calls

    private static void refusals() {
        String first = "Calls that are refused answer, the first of these that fits: UNKNOWN -1 (there is no such HOLDING, "
            + "FLOOR, PERSON, NOTICE, SALE), OUTSIDE -2 (another number is not as told), STATE -3 (as told), FULL -4, "
            + "NO -5 (as told)";
        edge(7, first, "five reasons, then one fewer each time");
        house();
        due(0, "end", 2, 1);
        fill(40, 0, 1);
        due(-1, "part", 40, 0, 10);
        due(-1, "part", 2, 0, 10);
        due(-2, "part", 2, 0, 9);
        due(-3, "part", 2, 8, 9);
        due(-4, "part", 1, 8, 9);
        again("the last of five alone");
        house();
        due(-5, "part", 1, 8, 9);
        due(3, "part", 1, 2, 9);
        edge(4, first, "four reasons, then one fewer each time");
        house();
        fill(40, 0, 7);
        due(-1, "lease", 40, 0, 9, 5, 10);
        due(-1, "lease", 1, 0, 9, 5, 10);
        due(-2, "lease", 1, 0, 9, 5, 9);
        due(-4, "lease", 1, 8, 5, 9, 9);
        again("the last of four alone");
        house();
        due(-5, "lease", 1, 8, 5, 9, 9);
        edge(19, first, "four reasons, then one fewer each time");
        for (int i = 0; i < 12; i++) law(0, 0, "f>0");
        say("f>");
        due(-1, "act", 4, -1);
        due(-2, "act", 3, -1);
        due(-4, "act", 3, 0);
        again("the last of four alone");
        say("f>");
        due(-5, "act", 3, 0);
    }

    /** A land with something of everything, so that a change would show. */
    private static void rich() {
        house();
        does("weight", 0, 3);
        does("value", 0, 500);
        does("value", 1, 300);
        does("rent", 1, 120, 7);
        does("rent", 2, 60, 3);
        does("live", 2, 0);
        law(0, 0, "l<200");
        law(1, 0, "f=3");
        law(2, 0, "l=0");
        law(3, 0, "o>0");
        say("l<5");
        does("point", 50, 4000);
        does("point", 90, 9000);
        does("sale", 10, 900);
        does("sale", 30, 2500);
        does("sale", 60, 7000);
        does("set", 0, 150);
        does("set", 1, 40);
        does("notice", 1, 0);
        does("notice", 2, 0);
        does("notice", 1, 1);
        does("answer", 1, false);
        does("breach", 2, true);
        does("line", 1, 2, 0, 10);
        does("line", 2, 3, 0, 20);
        does("line", 1, 3, 5, 9);
        does("today", 10);
    }

    private static void everyCallRefused() {
        String nothing = "They change nothing";
        edge(3, nothing, "calls of section 1");
        rich();
        refusedHoldings();
        edge(12, nothing, "calls of sections 2 and 3");
        rich();
        refusedRentsAndActs();
        edge(24, nothing, "calls of section 4");
        rich();
        refusedNotices();
        edge(32, nothing, "calls of section 5");
        rich();
        refusedWorths();
        edge(44, nothing, "calls of sections 6 and 7");
        rich();
        refusedJoiningAndLines();
    }

    private static void refusedHoldings() {
        due(OUTSIDE, "today", 9);
        due(OUTSIDE, "today", 73001);
        due(UNKNOWN, "whole", 8, 10);
        due(OUTSIDE, "whole", 0, 1);
        due(NO, "whole", 9, 1);
        for (String name : new String[] {"lease", "between"}) {
            due(UNKNOWN, name, 3, 1, 10, 20, 1);
            due(UNKNOWN, name, 0, 1, 10, 20, 10);
            due(OUTSIDE, name, 0, 0, 10, 20, 1);
            due(OUTSIDE, name, 0, 1, 9, 20, 1);
            due(OUTSIDE, name, 0, 1, 10, 10, 1);
            due(OUTSIDE, name, 0, 1, 10, 73001, 1);
            due(NO, name, 0, 1, 10, 20, 1);
            due(NO, name, 1, 8, 10, 20, 1);
        }
        due(UNKNOWN, "sell", 3, 1);
        due(UNKNOWN, "sell", 1, 10);
        due(UNKNOWN, "part", 0, 1, 1);
        due(OUTSIDE, "part", 1, 0, 1);
        due(NO, "part", 2, 1, 1);
        due(NO, "part", 1, 8, 1);
        due(UNKNOWN, "end", 0, 1);
        due(OUTSIDE, "end", 1, 2);
        due(NO, "end", 2, 3);
        due(UNKNOWN, "about", 3, 0);
        due(OUTSIDE, "about", 1, 12);
        due(UNKNOWN, "chain", 12, 0);
        due(NONE, "chain", 0, 3);
        due(UNKNOWN, "live", 10, 0);
        due(UNKNOWN, "live", 0, 12);
        due(UNKNOWN, "live", 0, -2);
    }

    private static void refusedRentsAndActs() {
        due(UNKNOWN, "rent", 0, 1, 1);
        due(OUTSIDE, "rent", 1, 100001, 0);
        due(OUTSIDE, "rent", 1, 1, 101);
        due(UNKNOWN, "rate", 3, 0);
        due(OUTSIDE, "rate", 1, -1);
        due(LOST - 1, "owed", 3, 0, 1);
        due(LOST - 2, "owed", 1, 2, 1);
        due(UNKNOWN, "weight", 12, 1);
        due(OUTSIDE, "weight", 0, 0);
        due(OUTSIDE, "say", 32);
        due(OUTSIDE, "say", 127);
        due(UNKNOWN, "act", 4, 0);
        due(OUTSIDE, "act", 0, -1);
        for (String name : new String[] {"right", "decisive", "first"}) {
            due(UNKNOWN, name, 3, 0);
            due(UNKNOWN, name, 1, 4);
        }
        due(UNKNOWN, "fact", 3, (int) 'l');
        due(OUTSIDE, "fact", 1, (int) 'a');
    }

    private static void refusedNotices() {
        due(UNKNOWN, "notice", 0, 0);
        due(OUTSIDE, "notice", 1, 2);
        due(-202, "notice", 1, 0);
        due(-202, "notice", 2, 0);
        due(-201, "notice", 2, 1);
        due(UNKNOWN, "answer", 3, true);
        due(STATE, "answer", 1, true);
        due(UNKNOWN, "withdraw", 3);
        due(UNKNOWN, "tribunal", -1, true);
        due(STATE, "tribunal", 0, false);
        due(UNKNOWN, "status", 3);
        due(UNKNOWN, "carry", 3);
        due(STATE, "carry", 0);
        due(STATE, "carry", 1);
        due(UNKNOWN, "stay", 0);
        due(UNKNOWN, "stay", 3);
    }

    private static void refusedWorths() {
        due(UNKNOWN, "value", 12, 0);
        due(OUTSIDE, "value", 0, -1);
        due(OUTSIDE, "point", 90, 1);
        due(OUTSIDE, "point", 91, 10001);
        due(OUTSIDE, "table", 201);
        due(UNKNOWN, "worth", 3);
        due(OUTSIDE, "sale", 201, 0);
        due(OUTSIDE, "sale", 0, 10001);
        due(LOST - 1, "learned", 0, 3, 0);
        due(LOST - 2, "learned", 201, -1, 0);
        due(LOST - 2, "learned", 0, -1, 2);
        due(LOST - 2, "doubt", 2);
        due(OUTSIDE, "set", 2, 0);
        due(OUTSIDE, "set", 0, 501);
        due(OUTSIDE, "set", 1, 101);
        due(LOST - 1, "price", 0, 0);
        due(LOST - 2, "price", 1, 4);
        due(LOST - 1, "share", 0, 0);
        due(LOST - 6, "share", 1, 1);
    }

    private static void refusedJoiningAndLines() {
        due(UNKNOWN, "may", 1, 0);
        due(OUTSIDE, "may", 0, 1024);
        due(UNKNOWN, "more", 1, 0);
        due(OUTSIDE, "more", 0, -1);
        due(UNKNOWN, "breach", 0, true);
        due(UNKNOWN, "breach", 3, false);
        due(UNKNOWN, "forfeit", 0);
        due(NO, "forfeit", 1);
        due(NO, "forfeit", 2);
        due(UNKNOWN, "relieve", 0);
        due(STATE, "relieve", 2);
        due(OUTSIDE, "line", 1, 1, 0, 5);
        due(OUTSIDE, "line", 0, 1, 5, 5);
        due(OUTSIDE, "line", 10, 1, 0, 5);
        due(OUTSIDE, "can", 8);
        due(OUTSIDE, "can", -1);
        due(NONE, "doubted", 9);
        due(OUTSIDE, "told", 9);
        due(OUTSIDE, "told", 22);
    }

    // ---- years, cuts

    private static void years() {
        edge(22, "a YEAR has 365", "364, 365, 729, 730 days left and of terms");
        due(0, "whole", 15, 0);
        int[] days = {364, 365, 729, 730};
        for (int i = 0; i < 4; i++) {
            due(i + 1, "lease", 0, 1 << i, 0, days[i], 1);
            due(days[i] / 365, "fact", i + 1, (int) 'l');
            due(days[i] / 365, "fact", i + 1, (int) 't');
        }
        does("today", 1);
        due(0, "fact", 2, (int) 'l');
        due(1, "fact", 2, (int) 't');
        edge(14, "a YEAR has 365", "a year's rent");
        flat();
        does("rent", 1, 777, 0);
        due(777, "owed", 1, 100, 465);
        due(774, "owed", 1, 100, 464);
        edge(13, "a YEAR has 365", "doubling after 2 years");
        flat();
        does("rent", 1, 7, 2);
        due(7, "rate", 1, 729);
        due(14, "rate", 1, 730);
    }

    private static void cuts() {
        String cut = "Quotients are cut, if no fraction is told";
        edge(22, cut, "years");
        due(0, "whole", 1, 0);
        due(1, "lease", 0, 1, 0, 1094, 1);
        due(2, "fact", 1, (int) 'l');
        due(2, "fact", 1, (int) 't');
        does("today", 1093);
        due(2, "fact", 1, (int) 'h');
        due(0, "fact", 1, (int) 'l');
        edge(35, cut, "values times table by 10000");
        due(0, "whole", 1, 0);
        does("point", 1, 9999);
        does("value", 0, 1);
        due(0, "worth", 0);
        does("value", 0, 3);
        due(2, "worth", 0);
        edge(40, cut, "losses and marriage");
        due(0, "whole", 1, 0);
        due(1, "lease", 0, 1, 0, 36500, 1);
        does("rent", 1, 3, 0);
        does("set", 0, 9);
        due(2, "price", 1, 3);
        does("rent", 1, 0, 0);
        does("value", 0, 3);
        does("point", 100, 0);
        does("point", 190, 10000);
        does("set", 1, 0);
        due(3, "price", 1, 1);
        due(1, "price", 1, 2);
        does("set", 1, 50);
        due(1, "price", 1, 3);
        due(1, "price", 1, 2);
        edge(41, cut, "shares");
        landlords();
        does("point", 50, 0);
        does("point", 140, 10000);
        does("set", 1, 0);
        due(1000, "price", 2, 1);
        due(300, "price", 2, 3);
        due(350, "price", 2, 2);
        due(433, "share", 2, 0);
        due(217, "share", 2, 1);
    }

    // ---- 1 holdings

    private static void holdings() {
        edge(3, "HOLDINGS, 40 at most, numbered from 0 on: a WHOLE, of FLOORS that no other WHOLE has, from day 0 to the END",
            "the first two of them, on the END");
        due(0, "whole", 3, 0);
        due(NO, "whole", 6, 1);
        due(1, "whole", 4, 1);
        does("today", 72999);
        due(1, "chain", 0, -1);
        due(1, "chain", 2, 0);
        does("today", 73000);
        due(0, "chain", 0, -1);
        due(0, "chain", 2, -1);
        due(NO, "whole", 1, 0);
        String lease = "or a LEASE out of a HOLDING, of some of its FLOORS, from a day till ahead of a later one";
        edge(4, lease, "one of three floors, days 5 to 9");
        due(0, "whole", 7, 0);
        due(1, "lease", 0, 2, 5, 10, 1);
        due(0, "about", 1, OUT);
        due(2, "about", 1, FLOORS);
        due(1, "chain", 1, -1);
        int[] days = {4, 5, 9, 10};
        int[] many = {1, 2, 2, 1};
        for (int i = 0; i < 4; i++) {
            does("today", days[i]);
            due(many[i], "chain", 1, -1);
            due(1, "chain", 0, -1);
        }
        edge(4, lease, "all of its floors, one day");
        due(0, "whole", 7, 0);
        due(1, "lease", 0, 7, 0, 1, 1);
        due(2, "lease", 1, 7, 0, 1, 1);
        due(3, "chain", 2, -1);
        edge(9, "Each has a PERSON, since some day (a WHOLE since TODAY, a LEASE since its from, as they begin)", "each");
        does("today", 7);
        due(0, "whole", 7, 4);
        due(1, "lease", 0, 1, 7, 100, 5);
        due(2, "lease", 0, 2, 50, 100, 6);
        for (int i = 0; i < 3; i++) due(4 + i, "about", i, PERSON);
        due(7, "about", 0, SINCE);
        due(7, "about", 1, SINCE);
        due(50, "about", 2, SINCE);
        edge(20, "if no day is told, TODAY is meant", "ahead of its days, in them, behind");
        onThreeDays("right", 0);
        onThreeDays("fact", (int) 'f');
        edge(35, "if no day is told, TODAY is meant", "ahead of its days, in them, behind");
        does("value", 0, 1);
        onThreeDays("worth");
    }

    /** A call that asks for a HOLDING IN FORCE answers 1 on the days of a LEASE alone. */
    private static void onThreeDays(String name, int... more) {
        int day = (int) does("told", -1);
        int lease = (int) does("told", 0);
        if (lease == 0) {
            lease = 1;
            does("whole", 1, 0);
            law(0, 0, "f=1");
        }
        due(lease, "lease", 0, 1, day + 5, day + 10, 1);
        Object[] args = more.length == 0 ? new Object[] {lease} : new Object[] {lease, more[0]};
        due(STATE, name, args);
        does("today", day + 4);
        due(STATE, name, args);
        does("today", day + 5);
        due(1, name, args);
        does("today", day + 9);
        due(1, name, args);
        does("today", day + 10);
        due(STATE, name, args);
    }

    private static void leases() {
        edge(4, "A LEASE may be granted out of a HOLDING, from TODAY or later", "yesterday, today, later");
        due(0, "whole", 7, 0);
        does("today", 20);
        due(OUTSIDE, "lease", 0, 1, 19, 30, 1);
        due(1, "lease", 0, 1, 20, 30, 1);
        due(2, "lease", 0, 2, 21, 30, 1);
        due(3, "lease", 1, 1, 21, 30, 1);
        edge(4, "and no other LEASE out of that", "out of another one such hinder nothing");
        house();
        due(NO, "lease", 1, 1, 0, 3650, 3);
        due(3, "lease", 2, 1, 0, 3650, 3);
        due(4, "lease", 1, 2, 0, 3650, 3);
        again("one that ended hinders nothing");
        house();
        due(0, "end", 2, 1);
        due(3, "lease", 1, 1, 0, 3650, 3);
    }

    private static void between() {
        String may = "It may be put BETWEEN, if it lies within, and each LEASE out of that which";
        edge(5, may, "none is there: as a lease");
        house();
        due(3, "between", 1, 2, 0, 3650, 3);
        due(1, "about", 3, OUT);
        again("one that meets it, one that does not");
        house();
        due(3, "lease", 1, 2, 0, 3650, 4);
        due(4, "between", 1, 1, 0, 3650, 3);
        due(4, "about", 2, OUT);
        due(1, "about", 3, OUT);
        due(1, "about", 4, UNDER);
        again("each that meets it");
        house();
        due(3, "lease", 1, 3, 4000, 5000, 4);
        due(NO, "between", 1, 1, 0, 4500, 3);
        due(4, "between", 1, 1, 0, 4000, 3);
        again("two under one");
        house();
        due(3, "lease", 1, 2, 0, 3650, 4);
        due(4, "between", 1, 3, 0, 3650, 3);
        due(4, "about", 2, OUT);
        due(4, "about", 3, OUT);
        due(2, "about", 4, UNDER);
        again("it must lie within, none being in the way or not");
        house();
        due(NO, "between", 2, 1, 0, 3651, 3);
        due(NO, "between", 2, 2, 0, 3650, 3);
        due(3, "between", 2, 1, 0, 3650, 3);
    }

    private static void chains() {
        edge(10, "THE CHAIN of a FLOOR: HOLDINGS IN FORCE with it: the WHOLE, then", "the WHOLE first, whatever its number");
        due(0, "whole", 1, 0);
        due(1, "lease", 0, 1, 0, 9, 1);
        due(2, "whole", 2, 2);
        due(3, "lease", 2, 2, 0, 9, 3);
        due(0, "chain", 0, 0);
        due(1, "chain", 0, 1);
        due(2, "chain", 1, 0);
        due(3, "chain", 1, 1);
        due(NONE, "chain", 1, 2);
        again("one whose floors it is not of stands not in it");
        house();
        due(0, "chain", 2, 0);
        due(1, "chain", 2, 1);
        due(NONE, "chain", 2, 2);
        again("one put between later stands ahead of one with a lower number");
        house();
        due(3, "between", 0, 7, 0, 36500, 3);
        due(3, "chain", 1, 1);
        due(1, "chain", 1, 2);
        edge(30, "IN THE WAY of days of a LEASE is another LEASE out of the same with one of its FLOORS on one of these",
            "another floor, other days, both");
        for (int i = 0; i < 4; i++) {
            again("case " + i);
            due(0, "whole", 3, 0);
            due(1, "lease", 0, 1, 0, 100, 1);
            if (i == 0) due(2, "lease", 0, 2, 100, 73000, 1);
            if (i == 1) due(2, "lease", 0, 1, 100, 101, 1);
            if (i == 2) due(2, "lease", 0, 3, 72999, 73000, 1);
            if (i == 3) due(2, "lease", 1, 1, 50, 100, 1);
            law(2, 0, "f=1");
            due(i == 0 || i == 3 ? 72900 : NO, "stay", 1);
        }
    }

    private static void mergedAndParted() {
        edge(8, "It is MERGED, likewise", "it ends today; what is out of it is out of what it was out of");
        house();
        due(3, "lease", 1, 6, 20, 900, 5);
        does("sell", 1, 0);
        does("today", 10);
        due(2, "end", 1, 3);
        due(10, "about", 1, UNTIL);
        due(3, "about", 1, WAY);
        due(0, "about", 2, OUT);
        due(0, "about", 3, OUT);
        due(2, "chain", 0, -1);
        due(0, "about", 2, WAY);
        edge(7, "PARTED: some, not all, of the FLOORS of a LEASE IN FORCE go to a PERSON: a new LEASE with these",
            "one and two of three floors");
        house();
        due(3, "part", 1, 4, 8);
        due(4, "about", 3, FLOORS);
        due(3, "about", 1, FLOORS);
        due(8, "about", 3, PERSON);
        due(1, "about", 1, PERSON);
        due(0, "about", 3, OUT);
        due(3, "chain", 2, 1);
        due(NO, "part", 1, 3, 8);
        due(4, "part", 1, 2, 7);
        due(1, "about", 1, FLOORS);
        due(4, "chain", 1, 1);
        edge(7, "those with all are out of the new one", "with all, with none");
        house();
        due(3, "lease", 1, 2, 100, 200, 5);
        due(4, "lease", 2, 1, 0, 10, 5);
        due(5, "part", 1, 1, 8);
        due(5, "about", 2, OUT);
        due(1, "about", 3, OUT);
        due(2, "about", 4, OUT);
        due(4, "chain", 0, -1);
        due(5, "chain", 0, 1);
    }

    // ---- 2 rents

    private static void rents() {
        edge(13, "RENT: an amount a YEAR (0 to 100000; 0 at first), and after how many YEARS (0: never; to 100) it doubles, "
            + "again and again, 10 times at most, counted from the LEASE's from", "every 2 years");
        due(0, "whole", 1, 0);
        due(1, "lease", 0, 1, 5, 73000, 1);
        due(0, "rate", 1, 5);
        due(0, "rent", 1, 3, 2);
        for (int i = 1; i < 13; i++) {
            due(3 << Math.min(10, i - 1), "rate", 1, 5 + 730 * i - 1);
            due(3 << Math.min(10, i), "rate", 1, 5 + 730 * i);
        }
        edge(7, "WEIGHTS of FLOORS (1 to 100; 1 at first): as a LEASE is PARTED, the new one's amount is the amount times the "
            + "WEIGHT of its FLOORS by that of all, cut; the rest stays", "weights as at first, then others");
        house();
        does("rent", 1, 100, 4);
        due(3, "part", 1, 2, 5);
        due(33, "about", 3, AMOUNT);
        due(67, "about", 1, AMOUNT);
        due(4, "about", 3, DOUBLES);
        does("weight", 0, 100);
        does("weight", 2, 20);
        due(4, "part", 1, 4, 5);
        due(11, "about", 4, AMOUNT);
        due(56, "about", 1, AMOUNT);
        due(33, "about", 3, AMOUNT);
        edge(13, "RATE on a day: as it is then", "on each of days passed, of today, to come");
        due(0, "whole", 1, 0);
        due(1, "lease", 0, 1, 10, 2000, 1);
        does("rent", 1, 8, 1);
        does("today", 400);
        due(0, "rate", 1, 9);
        due(8, "rate", 1, 10);
        due(8, "rate", 1, 374);
        due(16, "rate", 1, 375);
        due(16, "rate", 1, 400);
        due(32, "rate", 1, 740);
        due(256, "rate", 1, 1999);
        due(0, "rate", 1, 2000);
        edge(14, "OWED from a day till ahead of another one", "none, one, many days");
        flat();
        does("rent", 1, 365, 0);
        due(0, "owed", 1, 5, 5);
        due(1, "owed", 1, 5, 6);
        due(1, "owed", 1, 999, 1000);
        due(1, "owed", 1, 999, 1001);
        due(0, "owed", 1, 1000, 1001);
        due(1000, "owed", 1, 0, 73000);
    }

    // ---- 3 acts

    private static void facts() {
        edge(23, "FACTS of a HOLDING on a day", "each as it is on that day");
        due(0, "whole", 3, 0);
        due(1, "lease", 0, 1, 100, 900, 1);
        does("rent", 1, 5, 1);
        law(0, 0, "l<1");
        due(536, "first", 1, 0);
        law(0, 0, "h=1");
        due(465, "first", 1, 0);
        law(0, 0, "r=20");
        due(830, "first", 1, 0);
        law(0, 0, "t=2&f=1&o=1&s=0");
        due(100, "first", 1, 0);
        edge(20, "h YEARS since it has its PERSON (0, if that is later than the day)", "that day itself; the last of one day");
        due(0, "whole", 1, 0);
        due(1, "lease", 0, 1, 0, 1, 1);
        law(0, 0, "h=0");
        law(2, 0, "h=0");
        due(1, "right", 1, 0);
        does("today", 1);
        due(1, "right", 0, 0);
        due(72999, "stay", 1);
    }

    private static void faults() {
        edge(18, "THE FAULT: the first place (from 0 on", "the first sign, a later one, the first of two");
        say(")");
        due(0, "fault");
        does("wipe");
        say("l=1x");
        due(3, "fault");
        does("wipe");
        say("l=1xx)");
        due(3, "fault");
        does("wipe");
        say("(l=1&(f<2)|!r>3))&");
        due(16, "fault");
    }

    private static void kinds() {
        edge(20, "Of a KIND that ACT is in force on a day", "one of another kind is none of it");
        due(0, "whole", 1, 0);
        for (int kind = 0; kind < 4; kind++) {
            law(kind, 0, kind % 2 == 0 ? "f=1" : "f=2");
            for (int other = 0; other < 4; other++) due(other > kind ? NONE : 1 - other % 2, "right", 0, other);
        }
        edge(20, "A HOLDING IN FORCE on a day has the RIGHT of a KIND then, if that ACT's text is so", "so, not so");
        house();
        law(1, 0, "f=1&(l=10|!s=0)");
        due(1, "right", 2, 1);
        due(0, "right", 1, 1);
        does("today", 1);
        due(0, "right", 2, 1);
        does("live", 2, 0);
        due(1, "right", 2, 1);
        edge(21, "DECISIVE: comparisons of it (numbered from 0 on as they stand)", "the last of three, of six");
        due(0, "whole", 1, 0);
        law(0, 0, "f=1&(o=1|t=200)");
        due(5, "decisive", 0, 0);
        law(0, 0, "f=2|f=2|f=2|f=2|f=2|f=1");
        due(32, "decisive", 0, 0);
    }

    // ---- 4 notices

    private static void notices() {
        String by = "by a LEASE IN FORCE, of KIND 0 or 1, on the day that is TODAY then";
        edge(24, by, "of each kind, on a later day");
        house();
        law(0, 0, "f>0");
        law(1, 0, "f>0");
        does("today", 7);
        due(0, "notice", 2, 0);
        due(1, "notice", 2, 1);
        does("today", 66);
        due(0, "status", 0);
        due(0, "status", 1);
        does("today", 67);
        due(1, "status", 0);
        due(1, "status", 1);
        due(1, "carry", 0);
        due(3650 + 32850, "about", 2, TO);
        due(4, "status", 0);
        edge(24, "LACKS:", "the first of them that fits");
        house();
        law(0, 0, "f=1");
        law(0, 5, "f=3");
        due(0, "notice", 2, 0);
        due(-202, "notice", 2, 0);
        due(1, "withdraw", 0);
        due(-203, "notice", 2, 0);
        does("today", 5);
        due(-201, "notice", 2, 0);
        String status = "(an answer yes; a tribunal's; or no answer within 60 days: from the 60th on); 2 REFUSED; "
            + "3 WITHDRAWN; 4 DONE; 5 LOST (by a tribunal)";
        edge(28, status, "each");
        due(0, "whole", 127, 0);
        law(0, 0, "f=1");
        for (int i = 0; i < 7; i++) {
            due(i + 1, "lease", 0, 1 << i, 0, 900, 1);
            due(i, "notice", i + 1, 0);
            due(0, "status", i);
        }
        due(1, "answer", 0, true);
        due(1, "answer", 1, false);
        due(1, "answer", 2, false);
        due(1, "tribunal", 2, true);
        due(1, "answer", 3, false);
        due(1, "tribunal", 3, false);
        due(1, "withdraw", 4);
        due(1, "answer", 5, true);
        due(1, "carry", 5);
        int[] now = {1, 2, 1, 5, 3, 4, 0};
        for (int i = 0; i < 7; i++) due(now[i], "status", i);
        does("today", 60);
        now[6] = 1;
        for (int i = 0; i < 7; i++) due(now[i], "status", i);
    }

    private static void done() {
        edge(29, "BUY: all it is out of must have just its FLOORS", "one between of more floors, parted, a whole of more floors");
        due(0, "whole", 1, 0);
        due(1, "whole", 6, 0);
        due(2, "lease", 1, 6, 0, 900, 1);
        due(3, "lease", 2, 2, 0, 900, 2);
        due(4, "lease", 0, 1, 0, 900, 3);
        law(1, 0, "f=1");
        due(0, "notice", 3, 1);
        due(1, "notice", 4, 1);
        due(1, "answer", 0, true);
        due(1, "answer", 1, true);
        due(NO, "carry", 0);
        due(5, "part", 2, 4, 1);
        due(NO, "carry", 0);
        due(1, "carry", 1);
        edge(29, "DONE, if it is AGREED, and the LEASE IN FORCE: LONGER", "either of them, both");
        flat();
        law(0, 0, "f=1");
        due(0, "notice", 1, 0);
        due(STATE, "carry", 0);
        due(1, "answer", 0, true);
        does("today", 999);
        due(1, "carry", 0);
        due(33850, "about", 1, TO);
        again("its time is over");
        flat();
        law(0, 0, "f=1");
        due(0, "notice", 1, 0);
        due(1, "answer", 0, true);
        does("today", 1000);
        due(STATE, "carry", 0);
        due(1, "status", 0);
        due(1000, "about", 1, TO);
    }

    private static void staying() {
        String stays = "STAYING: a LEASE that has not ENDED, TODAY not later than its to, with the RIGHT of KIND 2 on the day "
            + "ahead of its to, stays on: its to is then UNTIL of what it is out of";
        edge(30, stays, "of a WHOLE, of a lease");
        flat();
        due(2, "lease", 1, 1, 0, 400, 2);
        law(2, 0, "f=1");
        due(600, "stay", 2);
        due(1000, "about", 2, TO);
        due(1000, "about", 2, UNTIL);
        due(1, "about", 2, OUT);
        due(0, "stay", 2);
        due(72000, "stay", 1);
        due(73000, "about", 1, TO);
        due(72000, "stay", 2);
        again("on its to it stands again, then the other one");
        flat();
        law(2, 0, "f=1");
        does("today", 1000);
        due(1, "chain", 0, -1);
        due(72000, "stay", 1);
        due(2, "chain", 0, -1);
    }

    // ---- 5 worths

    private static void values() {
        edge(31, "WORTH: FLOORS have a VALUE (0 to 1000000; 0 at first)", "none, then one");
        due(0, "whole", 3, 0);
        due(0, "worth", 0);
        due(0, "value", 1, 1000000);
        due(1000000, "worth", 0);
        due(OUTSIDE, "value", 1, 1000001);
    }

    private static void learned() {
        edge(37, "LEARNED: the line through them with the least squares (two unlike YEARS are needed)", "three not in a line");
        does("sale", 0, 0);
        does("sale", 1, 0);
        does("sale", 2, 3);
        due(-1, "learned", 0, -1, 0);
        due(2, "learned", 0, -1, 1);
        due(5, "learned", 2, -1, 0);
        due(2, "learned", 2, -1, 1);
        due(1, "learned", 1, -1, 0);
        due(1, "learned", 1, -1, 1);
        again("years alike");
        does("sale", 5, 0);
        due(LOST - 3, "learned", 5, -1, 0);
        does("sale", 5, 9);
        due(LOST - 3, "learned", 5, -1, 0);
        does("sale", 6, 9);
        due(9, "learned", 6, -1, 0);
        due(9, "learned", 5, -1, 0);
        due(2, "learned", 5, -1, 1);
        edge(37, "also with one SALE left out", "each of three");
        does("sale", 0, 0);
        does("sale", 10, 100);
        does("sale", 20, 400);
        due(1000, "learned", 40, 0, 0);
        due(800, "learned", 40, 1, 0);
        due(400, "learned", 40, 2, 0);
        due(2300, "learned", 40, -1, 0);
        due(3, "learned", 40, -1, 1);
    }

    private static void price() {
        edge(40, "PRICE of LONGER for a LEASE IN FORCE", "no act, no right is needed");
        landlords();
        due(300, "price", 2, 0);
        does("today", 18249);
        due(300, "price", 2, 0);
        does("today", 18250);
        due(LOST - 3, "price", 2, 0);
        due(100, "price", 1, 0);
        edge(41, "LOSS of each HOLDING it is out of, the nearest first: that of the RENT which it gets", "three of them");
        landlords();
        due(3, "lease", 2, 1, 0, 365, 3);
        does("rent", 3, 70, 0);
        due(700, "share", 3, 0);
        due(200, "share", 3, 1);
        due(100, "share", 3, 2);
        due(LOST - 6, "share", 3, 3);
        due(1000, "price", 3, 3);
    }

    // ---- 6 joining, breaches

    private static void joining() {
        String joining = "JOINING of a WHOLE, with PERSONS that will: FLOORS count that have, as the last of THE CHAIN, a LEASE "
            + "with the RIGHT of KIND 3; they may BUY, if these are two thirds of its FLOORS or more, and those of them "
            + "whose PERSON will half of its FLOORS or more";
        edge(42, joining, "three floors, two of them count");
        due(0, "whole", 7, 9);
        due(1, "lease", 0, 1, 0, 900, 1);
        due(2, "lease", 0, 2, 0, 900, 2);
        law(3, 0, "f=1");
        due(1, "may", 0, 6);
        due(0, "may", 0, 2);
        due(0, "may", 0, 4);
        due(0, "may", 0, 1 << 9);
        due(0, "end", 2, 1);
        due(0, "may", 0, 1023);
        edge(43, "FEWEST MORE: the least number of further PERSONS with which they may; of several the least as bits",
            "one of two floors rather than two of one; who will is none of the further");
        due(0, "whole", 15, 9);
        due(1, "lease", 0, 1, 0, 900, 1);
        due(2, "lease", 0, 2, 0, 900, 2);
        due(3, "lease", 0, 4, 0, 900, 5);
        due(4, "lease", 0, 8, 0, 900, 5);
        law(3, 0, "f=1");
        due(1 << 5, "more", 0, 0);
        due(1 << 2, "more", 0, 1 << 1);
        due(1 << 1, "more", 0, 1 << 2);
        due(0, "more", 0, 1 << 5);
        due(1 << 5, "more", 0, 1);
    }

    private static void breaches() {
        String breach = "BREACH: told of a LEASE IN FORCE, since TODAY; it may be MENDED; 30 days after it, or more, the LEASE "
            + "may be FORFEIT";
        edge(44, breach, "told on a day, mended, told again");
        flat();
        does("today", 4);
        due(NONE, "about", 1, BREACH);
        due(1, "breach", 1, true);
        due(4, "about", 1, BREACH);
        does("today", 6);
        due(1, "breach", 1, false);
        due(NONE, "about", 1, BREACH);
        does("today", 8);
        due(1, "breach", 1, true);
        due(8, "about", 1, BREACH);
        edge(45, breach, "29, 30 days after it, more; mended on the 30th");
        int[] days = {29, 30, 31, 400};
        for (int day : days) {
            again(day + " days");
            flat();
            due(1, "breach", 1, true);
            does("today", day);
            due(day < 30 ? NO : 0, "forfeit", 1);
            due(day < 30 ? 0 : 2, "about", 1, WAY);
        }
        again("mended on the 30th");
        flat();
        due(1, "breach", 1, true);
        does("today", 30);
        due(1, "breach", 1, false);
        due(NO, "forfeit", 1);
    }

    private static void relief() {
        String relief = "RELIEF within 180 days: the LEASE stands again, with all that FELL by that";
        edge(46, relief, "on that day, 180, 181 days later");
        for (int days : new int[] {0, 180, 181}) {
            again(days + " days");
            house();
            due(3, "lease", 2, 1, 100, 3000, 3);
            due(4, "lease", 1, 2, 0, 20000, 4);
            due(1, "breach", 1, true);
            does("today", 50);
            due(3, "forfeit", 1);
            does("today", 50 + days);
            due(days > 180 ? STATE : 4, "relieve", 1);
            for (int i = 2; i < 5; i++) due(days > 180 ? 4 : 0, "about", i, WAY);
            due(days > 180 ? 50 : 3650, "about", 2, UNTIL);
            due(days > 180 ? 100 : 3000, "about", 3, UNTIL);
        }
        String if3 = "if what it is out of is IN FORCE, and has its FLOORS, and none is IN THE WAY of its days from TODAY on";
        edge(46, if3, "given up, parted, let again; none of it");
        for (int i = 0; i < 4; i++) {
            again("case " + i);
            house();
            due(1, "breach", 2, true);
            does("today", 30);
            due(0, "forfeit", 2);
            if (i == 0) due(0, "end", 1, 1);
            if (i == 1) due(3, "part", 1, 1, 5);
            if (i == 2) due(3, "lease", 1, 1, 3649, 3650, 5);
            if (i == 3) due(3, "lease", 1, 1, 3650, 3651, 5);
            due(i < 3 ? NO : 1, "relieve", 2);
            due(i < 3 ? 2 : 0, "about", 2, WAY);
        }
    }

    // ---- 7 the register, the constants

    private static void register() {
        edge(47, "7 REGISTER: LINES", "two, as they come");
        due(0, "line", 4, 5, 0, 9);
        due(1, "line", 5, 6, 0, 9);
        due(2, "told", 6);
        edge(48, "A set of LINES can be, if", "each reason alone, none");
        due(0, "line", 1, 2, 5, 10);
        due(1, "line", 1, 3, 5, 10);
        due(2, "line", 2, 1, 5, 10);
        due(3, "line", 2, 4, 6, 10);
        due(4, "line", 2, 4, 0, 20);
        due(0, "can", 3);
        due(0, "can", 5);
        due(0, "can", 9);
        due(1, "can", 17);
        due(1, "can", 18);
        edge(49, "DOUBTED: the fewest LINES without which the rest can be; of several sets the least as bits; "
            + "RIVALS: all sets of so few", "two of three, in three ways");
        due(0, "line", 1, 2, 0, 10);
        due(1, "line", 1, 3, 0, 10);
        due(2, "line", 1, 4, 0, 10);
        due(3, "doubted", -1);
        due(3, "doubted", 0);
        due(5, "doubted", 1);
        due(6, "doubted", 2);
        due(NONE, "doubted", 3);
    }

    private static void constants() {
        edge(3, "The constants: `UNKNOWN = -1, OUTSIDE = -2, STATE = -3, FULL = -4, NO = -5, NONE = -6`: What refused calls answer",
            "their names");
        due(LeaseLand.UNKNOWN, "whole", 1, 10);
        due(LeaseLand.OUTSIDE, "whole", 0, 0);
        flat();
        due(LeaseLand.NO, "whole", 1, 0);
        due(LeaseLand.STATE, "relieve", 1);
        does("end", 1, 1);
        fill(40, 0, 1);
        due(LeaseLand.FULL, "whole", 2, 0);
        edge(10, "NONE: there is none", "of a chain, of homes, of breaches, of faults, of acts, of days, of sets");
        due(LeaseLand.NONE, "chain", 0, 0);
        due(LeaseLand.NONE, "live", 0, 3);
        flat();
        due(LeaseLand.NONE, "about", 1, BREACH);
        due(LeaseLand.NONE, "right", 1, 0);
        due(LeaseLand.NONE, "first", 1, 0);
        due(LeaseLand.NONE, "more", 0, 0);
        due(LeaseLand.NONE, "doubted", 1);
        say("f=1");
        due(LeaseLand.NONE, "fault");
        edge(14, "`LOST = -1000000000000000L`, `END = 73000, LONG = 32850`: What is told of great numbers that are refused: LOST "
            + "and the refusal", "each");
        flat();
        due(LeaseLand.LOST + LeaseLand.UNKNOWN, "owed", 2, 0, 1);
        due(LeaseLand.LOST + LeaseLand.OUTSIDE, "owed", 1, 0, LeaseLand.END + 1);
        due(LeaseLand.LOST + LeaseLand.STATE, "doubt", 0);
        due(LeaseLand.LOST + LeaseLand.NONE, "share", 1, 1);
        due(0, "owed", 1, 0, LeaseLand.END);
        edge(29, "LONG = 32850", "that many days more");
        flat();
        law(0, 0, "f=1");
        carried(0);
        due(1000 + LeaseLand.LONG, "about", 1, TO);
    }
}
