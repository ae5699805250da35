/** The document's promises, 1 to 50: what of them no edge quotes, promise by promise. */
final class SentencesOfPromisesTest extends Edges {
    public static void main(String[] args) {
        todayAndGrants();
        partsAndEnds();
        aboutAndChain();
        rents();
        signs();
        acts();
        rights();
        notices();
        carriesAndStays();
        tableAndWorth();
        sales();
        prices();
        joining();
        breaches();
        lines();
        finish("promises 1 to 50, sentence by sentence");
    }

    /** A WHOLE 0 of floor 0, person 0; a LEASE 1 out of it till day 1000, person 1. */
    private static void flat() {
        due(0, "whole", 1, 0);
        due(1, "lease", 0, 1, 0, 1000, 1);
    }

    // ---- 1 holdings

    private static void todayAndGrants() {
        edge(1, "`LeaseLand()`", "nothing was told yet");
        for (int what = -1; what <= 6; what++) due(0, "told", what);
        due(NONE, "doubted", 1);
        due(0, "fault");
        edge(2, "TODAY: which day it was", "not which it is");
        due(0, "today", 7);
        due(7, "today", 9);
        due(9, "today", 9);
        due(9, "told", -1);
        edge(3, "A WHOLE: its number", "counted with leases");
        due(0, "whole", 1, 0);
        due(1, "lease", 0, 1, 0, 9, 1);
        due(2, "whole", 2, 0);
        due(3, "told", 0);
        edge(3, "UNKNOWN: the PERSON; OUTSIDE: FLOORS; FULL; NO: another one has one of them", "each, one of two, all of them");
        due(0, "whole", 6, 0);
        due(UNKNOWN, "whole", 1, 10);
        due(OUTSIDE, "whole", 4096, 0);
        due(NO, "whole", 3, 0);
        due(NO, "whole", 6, 0);
        due(NO, "whole", 4095, 9);
        due(NO, "whole", 2, 0);
        due(1, "whole", 9, 0);
        fill(40, 0, 2);
        due(FULL, "whole", 2, 0);
        due(FULL, "whole", 16, 0);
        edge(4, "A LEASE: its number", "out of a whole, of a lease");
        due(0, "whole", 1, 0);
        due(1, "lease", 0, 1, 0, 9, 1);
        due(2, "lease", 1, 1, 0, 9, 1);
        due(3, "told", 0);
        edge(4, "to beyond the END; FULL; NO", "all three, two, one");
        due(0, "whole", 1, 0);
        due(1, "lease", 0, 1, 0, 9, 1);
        fill(40, 0, 1);
        due(OUTSIDE, "lease", 0, 1, 0, 73001, 1);
        due(FULL, "lease", 0, 1, 0, 9, 1);
        again("one");
        due(0, "whole", 1, 0);
        due(1, "lease", 0, 1, 0, 9, 1);
        due(NO, "lease", 0, 1, 0, 9, 1);
        edge(5, "A LEASE put BETWEEN, likewise", "its number; its person since its from; no rent; refused as a lease");
        flat();
        does("today", 5);
        due(2, "between", 0, 1, 5, 1000, 4);
        due(4, "about", 2, PERSON);
        due(5, "about", 2, SINCE);
        due(0, "about", 2, AMOUNT);
        due(0, "about", 2, DOUBLES);
        due(NONE, "about", 2, BREACH);
        due(UNKNOWN, "between", 3, 0, 0, 0, 4);
        due(UNKNOWN, "between", 2, 0, 0, 0, 10);
        due(OUTSIDE, "between", 2, 1, 4, 1000, 4);
        due(OUTSIDE, "between", 2, 1, 5, 5, 4);
        due(NO, "between", 2, 1, 5, 999, 4);
        fill(40, 0, 1);
        due(OUTSIDE, "between", 2, 0, 5, 1000, 4);
        due(FULL, "between", 2, 1, 5, 1000, 4);
    }

    private static void partsAndEnds() {
        edge(7, "PARTED: the new LEASE", "its number, the next one");
        house();
        due(3, "part", 1, 2, 5);
        due(4, "part", 1, 4, 5);
        due(5, "told", 0);
        edge(7, "FULL; NO: FLOORS that it has not, or all; a LEASE out of it lies across", "each of them, one full of all");
        house();
        due(3, "lease", 1, 6, 0, 50, 3);
        due(NO, "part", 1, 8, 5);
        due(NO, "part", 1, 9, 5);
        due(NO, "part", 1, 7, 5);
        due(NO, "part", 1, 2, 5);
        due(NO, "part", 1, 5, 5);
        due(4, "part", 1, 6, 5);
        fill(40, 0, 7);
        for (int floors : new int[] {1, 2, 7, 8, 9}) due(FULL, "part", 4, floors, 5);
        edge(8, "GIVEN UP (way = 1), MERGED (3): LEASES that are out of another HOLDING now", "none, one, two; over ones count not");
        house();
        due(3, "lease", 1, 2, 0, 30, 3);
        due(4, "lease", 1, 4, 0, 20, 3);
        due(5, "lease", 1, 4, 40, 50, 3);
        due(6, "lease", 2, 1, 0, 50, 1);
        does("sell", 1, 0);
        does("today", 20);
        due(0, "end", 6, 1);
        due(3, "end", 1, 3);
        due(1, "about", 4, OUT);
        for (int i : new int[] {2, 3, 5}) due(0, "about", i, OUT);
        due(2, "about", 6, OUT);
        due(0, "end", 2, 1);
        edge(8, "NO: MERGED, and PERSONS are unlike", "unlike, alike by a sale of either");
        house();
        due(NO, "end", 2, 3);
        does("sell", 1, 2);
        due(0, "end", 2, 3);
        again("that of the one it is out of, not of the whole");
        house();
        does("sell", 2, 0);
        due(NO, "end", 2, 3);
        does("sell", 2, 1);
        due(0, "end", 2, 3);
        again("given up with persons unlike");
        house();
        due(0, "end", 2, 1);
    }

    private static void aboutAndChain() {
        edge(9, "Of a HOLDING: 0 what it is out of (-1: a WHOLE), 1 FLOORS, 2 from, 3 to, 4 UNTIL, 5 WAY, 6 PERSON, 7 since, "
            + "8 RENT's amount, 9 YEARS of doubling, 10 day of its BREACH (NONE), 11 how many LEASES are out of it", "each");
        due(0, "whole", 7, 3);
        due(1, "lease", 0, 6, 10, 900, 4);
        due(2, "lease", 1, 2, 50, 60, 5);
        does("rent", 1, 77, 8);
        does("today", 20);
        does("sell", 1, 6);
        does("today", 25);
        due(1, "breach", 1, true);
        does("today", 30);
        int[] before = {0, 6, 10, 900, 900, 0, 6, 20, 77, 8, 25, 1};
        for (int what = 0; what < 12; what++) due(before[what], "about", 1, what);
        due(1, "end", 1, 1);
        int[] then = {0, 6, 10, 900, 30, 1, 6, 20, 77, 8, 25, 0};
        for (int what = 0; what < 12; what++) due(then[what], "about", 1, what);
        int[] whole = {-1, 7, 0, 73000, 73000, 0, 3, 0, 0, 0, NONE, 2};
        for (int what = 0; what < 12; what++) due(whole[what], "about", 0, what);
        edge(10, "THE CHAIN of a FLOOR: how many (i = -1), the i-th HOLDING", "of two wholes");
        due(0, "whole", 5, 0);
        due(1, "whole", 2, 0);
        due(2, "lease", 1, 2, 0, 10, 0);
        due(1, "chain", 0, -1);
        due(2, "chain", 1, -1);
        due(1, "chain", 2, -1);
        due(1, "chain", 1, 0);
        due(2, "chain", 1, 1);
        due(0, "chain", 2, 0);
        due(NONE, "chain", 2, 1);
        due(NONE, "chain", 2, -2);
    }

    // ---- 2 rents

    private static void rents() {
        edge(12, "RENT: which amount it was. UNKNOWN: also it is a WHOLE; OUTSIDE", "amounts and years, of no matter which day");
        flat();
        due(0, "rent", 1, 5, 9);
        due(5, "rent", 1, 6, 8);
        due(6, "about", 1, AMOUNT);
        due(8, "about", 1, DOUBLES);
        due(OUTSIDE, "rent", 1, -1, 8);
        due(OUTSIDE, "rent", 1, 100001, 8);
        due(OUTSIDE, "rent", 1, 6, -1);
        due(OUTSIDE, "rent", 1, 6, 101);
        due(UNKNOWN, "rent", 0, 6, 101);
        due(UNKNOWN, "rent", 2, 6, 8);
        due(6, "rent", 1, 100000, 100);
        does("today", 2000);
        due(100000, "rent", 1, 3, 0);
        edge(13, "RATE (0, if it is not IN FORCE)", "of a lease, of a whole, of one that ended");
        flat();
        does("rent", 1, 5, 0);
        due(5, "rate", 1, 0);
        due(5, "rate", 1, 999);
        due(0, "rate", 1, 1000);
        due(0, "rate", 0, 5);
        does("today", 9);
        due(0, "end", 1, 1);
        due(5, "rate", 1, 8);
        due(0, "rate", 1, 9);
        due(0, "rate", 1, 10);
        edge(14, "OWED. UNKNOWN, OUTSIDE", "of a lease, of a whole, of one that ended");
        flat();
        does("rent", 1, 730, 0);
        due(20, "owed", 1, 0, 10);
        due(0, "owed", 0, 0, 10);
        does("today", 9);
        due(0, "end", 1, 1);
        due(18, "owed", 1, 0, 10);
        due(2, "owed", 1, 8, 73000);
        due(0, "owed", 1, 9, 73000);
        edge(15, "WEIGHT of a FLOOR: which it was. UNKNOWN; OUTSIDE", "each floor has its own");
        for (int floor = 0; floor < 12; floor++) due(1, "weight", floor, floor + 2);
        for (int floor = 0; floor < 12; floor++) due(floor + 2, "weight", floor, 100 - floor);
        for (int floor = 0; floor < 12; floor++) due(100 - floor, "told", 30 + floor);
        due(UNKNOWN, "weight", -1, 5);
        due(UNKNOWN, "weight", 12, 0);
        due(OUTSIDE, "weight", 0, 0);
        due(OUTSIDE, "weight", 11, 101);
    }

    // ---- 3 acts

    private static void signs() {
        edge(16, "A sign more: how many. OUTSIDE; FULL", "first and last, beyond, the 49th");
        due(1, "say", 33);
        due(2, "say", 126);
        due(OUTSIDE, "say", 32);
        due(OUTSIDE, "say", 127);
        due(OUTSIDE, "say", 0);
        due(OUTSIDE, "say", 'l' + 65536);
        for (int i = 3; i <= 48; i++) due(i, "say", (int) 'z');
        due(FULL, "say", (int) 'z');
        due(OUTSIDE, "say", 32);
        due(48, "wipe");
        due(1, "say", (int) 'z');
    }

    private static void acts() {
        edge(19, "An ACT of the signs, in force from a day (they are empty then): how many ACTS (12 at most)", "from a later day");
        due(0, "whole", 1, 0);
        say("f=1");
        due(1, "act", 0, 5);
        due(0, "told", 1);
        say("f=2");
        due(2, "act", 0, 7);
        due(2, "told", 2);
        due(NONE, "right", 0, 0);
        does("today", 5);
        due(1, "right", 0, 0);
        does("today", 6);
        due(1, "right", 0, 0);
        does("today", 7);
        due(0, "right", 0, 0);
        edge(19, "UNKNOWN: the KIND; OUTSIDE; FULL; NO: there is a FAULT", "each alone; signs stay");
        say("f=");
        due(UNKNOWN, "act", -1, 0);
        due(UNKNOWN, "act", 4, 0);
        due(OUTSIDE, "act", 0, 73001);
        due(NO, "act", 0, 73000);
        due(2, "told", 1);
        say("1");
        due(UNKNOWN, "act", 4, 0);
        due(OUTSIDE, "act", 0, -1);
        due(1, "act", 0, 73000);
        for (int i = 2; i <= 12; i++) law(0, 0, "f=1");
        say("f=1");
        due(FULL, "act", 0, 0);
        due(3, "told", 1);
        due(12, "told", 2);
    }

    private static void rights() {
        edge(20, "Whether a HOLDING has a RIGHT: 1, 0; NONE: there is no ACT. UNKNOWN: HOLDING, KIND; STATE: not IN FORCE", "each");
        house();
        law(1, 0, "f=1");
        due(0, "right", 0, 1);
        due(1, "right", 2, 1);
        due(NONE, "right", 2, 0);
        due(UNKNOWN, "right", 3, 1);
        due(UNKNOWN, "right", 2, 4);
        due(0, "end", 2, 1);
        due(STATE, "right", 2, 1);
        due(STATE, "right", 2, 0);
        edge(21, "DECISIVE comparisons, as bits, likewise", "some, none; no act, no holding, no kind, not in force");
        house();
        law(1, 0, "f=1&o=2&l<9");
        due(4, "decisive", 2, 1);
        due(0, "decisive", 0, 1);
        due(NONE, "decisive", 2, 0);
        due(UNKNOWN, "decisive", 3, 1);
        due(UNKNOWN, "decisive", 2, 4);
        due(0, "end", 2, 1);
        due(STATE, "decisive", 2, 1);
        due(STATE, "decisive", 2, 0);
        edge(23, "The first day from TODAY on", "today, a later one, none that is over");
        due(0, "whole", 1, 0);
        due(1, "lease", 0, 1, 30, 1000, 1);
        law(0, 10, "f=1");
        due(10, "first", 0, 0);
        due(30, "first", 1, 0);
        does("today", 10);
        due(10, "first", 0, 0);
        does("today", 500);
        due(500, "first", 1, 0);
        law(0, 0, "l>1");
        law(0, 11, "f=2");
        due(NONE, "first", 1, 0);
        due(NONE, "first", 1, 3);
    }

    // ---- 4 notices

    private static void notices() {
        edge(24, "A NOTICE: its number; with a LACK -200 less that (none is kept)", "numbers one behind the other");
        house();
        law(0, 0, "f>0");
        due(0, "notice", 2, 0);
        due(-201, "notice", 2, 1);
        due(-202, "notice", 2, 0);
        due(1, "notice", 1, 0);
        due(2, "told", 3);
        due(UNKNOWN, "status", 2);
        edge(24, "STATE: not IN FORCE; FULL", "both, the latter");
        due(0, "whole", 4095, 0);
        law(0, 0, "f>0");
        law(1, 0, "f>0");
        for (int i = 0; i < 12; i++) due(i + 1, "lease", 0, 1 << i, 0, 10 + i, 1);
        due(13, "lease", 1, 1, 0, 10, 1);
        for (int i = 0; i < 24; i++) due(i, "notice", i % 12 + 1, i / 12);
        due(FULL, "notice", 13, 0);
        does("today", 10);
        due(STATE, "notice", 13, 0);
        due(FULL, "notice", 2, 0);
        edge(25, "An answer: 1. UNKNOWN; STATE: it is not OPEN", "yes, no, each once");
        house();
        law(0, 0, "f>0");
        due(UNKNOWN, "answer", 0, true);
        due(0, "notice", 1, 0);
        due(1, "notice", 2, 0);
        due(1, "answer", 0, true);
        due(1, "status", 0);
        due(STATE, "answer", 0, false);
        due(1, "answer", 1, false);
        due(2, "status", 1);
        due(STATE, "answer", 1, true);
        edge(26, "It is WITHDRAWN: 1", "an open one, a refused, an agreed one");
        due(0, "whole", 7, 0);
        law(0, 0, "f>0");
        for (int i = 0; i < 3; i++) due(i + 1, "lease", 0, 1 << i, 0, 900, 1);
        for (int i = 0; i < 3; i++) due(i, "notice", i + 1, 0);
        due(1, "answer", 1, false);
        due(1, "answer", 2, true);
        for (int i = 0; i < 3; i++) {
            due(1, "withdraw", i);
            due(3, "status", i);
            due(STATE, "withdraw", i);
        }
        edge(28, "STATUS. UNKNOWN", "-1, 0, 1");
        flat();
        law(0, 0, "f>0");
        due(UNKNOWN, "status", 0);
        due(0, "notice", 1, 0);
        due(0, "status", 0);
        due(UNKNOWN, "status", 1);
        due(UNKNOWN, "status", -1);
    }

    private static void carriesAndStays() {
        edge(29, "NO: LONGER, and one is IN THE WAY; BUY, and what it is out of has other FLOORS, too", "each, and neither");
        house();
        law(0, 0, "f>0");
        law(1, 0, "f>0");
        due(3, "lease", 1, 1, 3650, 3651, 3);
        due(0, "notice", 2, 0);
        due(1, "notice", 2, 1);
        due(2, "notice", 1, 1);
        for (int i = 0; i < 3; i++) due(1, "answer", i, true);
        due(NO, "carry", 0);
        due(NO, "carry", 1);
        due(1, "status", 0);
        due(1, "status", 1);
        due(1, "carry", 2);
        due(4, "status", 2);
        due(NO, "carry", 0);
        due(NO, "carry", 1);
        again("neither");
        house();
        law(0, 0, "f>0");
        law(1, 0, "f>0");
        due(0, "notice", 1, 0);
        due(1, "notice", 1, 1);
        due(1, "answer", 0, true);
        due(1, "answer", 1, true);
        due(1, "carry", 0);
        due(69350, "about", 1, TO);
        due(1, "carry", 1);
        due(1, "about", 0, PERSON);
        due(STATE, "carry", 1);
        edge(30, "STAYING: how many days more. UNKNOWN: also a WHOLE; STATE: it ENDED, or TODAY is later than its to; NO", "each");
        house();
        due(UNKNOWN, "stay", 0);
        due(UNKNOWN, "stay", 3);
        due(NO, "stay", 2);
        law(2, 0, "f=1");
        due(NO, "stay", 1);
        does("today", 3650);
        due(32850, "stay", 2);
        due(36500, "about", 2, TO);
        due(0, "end", 2, 1);
        due(STATE, "stay", 2);
        again("the day behind its to, and it ended on its to");
        house();
        law(2, 0, "f=1");
        does("today", 3651);
        due(STATE, "stay", 2);
        does("today", 36501);
        due(STATE, "stay", 1);
    }

    // ---- 5 worths

    private static void tableAndWorth() {
        edge(31, "VALUE of a FLOOR: which it was. UNKNOWN; OUTSIDE", "each floor has its own");
        for (int floor = 0; floor < 12; floor++) due(0, "value", floor, floor + 2);
        for (int floor = 0; floor < 12; floor++) due(floor + 2, "value", floor, 1000000 - floor);
        for (int floor = 0; floor < 12; floor++) due(1000000 - floor, "told", 10 + floor);
        due(UNKNOWN, "value", -1, 5);
        due(UNKNOWN, "value", 12, -1);
        due(OUTSIDE, "value", 0, -1);
        due(OUTSIDE, "value", 11, 1000001);
        edge(32, "A point more of THE TABLE: how many. OUTSIDE: also YEARS not above the last ones; FULL", "each");
        for (int i = 1; i <= 9; i++) due(i, "point", i * 5, 0);
        due(OUTSIDE, "point", 45, 0);
        due(OUTSIDE, "point", 46, -1);
        due(OUTSIDE, "point", 201, 0);
        due(10, "point", 46, 0);
        due(OUTSIDE, "point", 46, 0);
        due(FULL, "point", 47, 0);
        edge(33, "Points go: how many there were", "the table is as without points, and fresh ones may be lower");
        due(1, "point", 50, 1000);
        due(2, "point", 60, 1000);
        due(2, "blank");
        due(10000, "table", 55);
        due(0, "blank");
        due(1, "point", 10, 400);
        due(200, "table", 5);
        edge(34, "THE TABLE at some YEARS (0 to 200). OUTSIDE", "on points, between, ahead, behind, beyond");
        does("point", 10, 2000);
        does("point", 60, 8000);
        int[] years = {0, 1, 9, 10, 11, 59, 60, 61, 200};
        int[] parts = {0, 200, 1800, 2000, 2120, 7880, 8000, 8000, 8000};
        for (int i = 0; i < years.length; i++) due(parts[i], "table", years[i]);
        due(OUTSIDE, "table", -1);
        due(OUTSIDE, "table", 201);
        edge(35, "WORTH of a HOLDING. UNKNOWN; STATE: not IN FORCE", "of a whole, of a lease, years later, when it is over");
        house();
        does("value", 0, 100);
        does("value", 1, 10);
        does("value", 3, 1000000);
        does("point", 100, 10000);
        due(110, "worth", 0);
        due(110, "worth", 1);
        due(10, "worth", 2);
        does("today", 365);
        due(9, "worth", 2);
        due(108, "worth", 1);
        does("today", 3650);
        due(STATE, "worth", 2);
        due(UNKNOWN, "worth", 3);
        due(UNKNOWN, "worth", -1);
    }

    private static void sales() {
        edge(36, "A SALE: how many. OUTSIDE; FULL", "twice the same, beyond, the 21st");
        due(1, "sale", 0, 0);
        due(2, "sale", 0, 0);
        due(3, "sale", 200, 10000);
        due(OUTSIDE, "sale", -1, 0);
        due(OUTSIDE, "sale", 201, 0);
        due(OUTSIDE, "sale", 0, -1);
        due(OUTSIDE, "sale", 0, 10001);
        for (int i = 4; i <= 20; i++) due(i, "sale", i, i);
        due(OUTSIDE, "sale", 201, 0);
        due(FULL, "sale", 0, 0);
        due(20, "told", 5);
        edge(37, "LEARNED for some YEARS (0 to 200), a SALE left out (-1: none): upper (part = 0), lower number (1). UNKNOWN: "
            + "the SALE, OUTSIDE, STATE: no two unlike YEARS are left (LOST less 1, 2, 3)", "each, and what goes ahead");
        does("sale", 0, 0);
        does("sale", 10, 100);
        due(50, "learned", 5, -1, 0);
        due(1, "learned", 5, -1, 1);
        due(LOST - 1, "learned", 5, 2, 0);
        due(LOST - 1, "learned", 201, -2, 2);
        due(LOST - 2, "learned", 201, -1, 0);
        due(LOST - 2, "learned", -1, 0, 0);
        due(LOST - 2, "learned", 5, 0, 2);
        due(LOST - 2, "learned", 5, 0, -1);
        due(LOST - 3, "learned", 5, 0, 0);
        due(LOST - 3, "learned", 5, 1, 1);
        edge(38, "DOUBT: upper, lower number, likewise (OUTSIDE, STATE)", "whole, broken, none, refused");
        due(LOST - 2, "doubt", 2);
        due(LOST - 3, "doubt", 0);
        does("sale", 0, 0);
        due(LOST - 3, "doubt", 1);
        does("sale", 10, 100);
        due(0, "doubt", 0);
        due(1, "doubt", 1);
        does("sale", 20, 400);
        due(200, "doubt", 0);
        due(3, "doubt", 1);
        due(LOST - 2, "doubt", -1);
        edge(39, "YP (which = 0), DEFER (1): which it was. OUTSIDE", "each has its own");
        due(100, "set", 0, 500);
        due(50, "set", 1, 100);
        due(500, "set", 0, 0);
        due(100, "set", 1, 0);
        due(0, "set", 0, 7);
        due(0, "set", 1, 8);
        due(7, "told", 7);
        due(8, "told", 8);
        due(OUTSIDE, "set", -1, 0);
        due(OUTSIDE, "set", 2, 0);
        due(OUTSIDE, "set", 0, 501);
        due(OUTSIDE, "set", 1, 101);
        due(OUTSIDE, "set", 1, -1);
    }

    /** A LEASE 1 of 100 years, a LEASE 2 of 50 years out of it, rents 1 and 2, and a table on which longer terms pay. */
    private static void paying() {
        due(0, "whole", 1, 0);
        due(1, "lease", 0, 1, 0, 36500, 1);
        due(2, "lease", 1, 1, 0, 18250, 2);
        does("value", 0, 1000);
        does("rent", 1, 1, 0);
        does("rent", 2, 2, 0);
        does("point", 50, 5000);
        does("point", 140, 9500);
    }

    private static void prices() {
        edge(40, "PRICE of LONGER (what = 0), GAIN (1), MARRIAGE (2), all LOSSES (3)", "of a lease under one and two landlords");
        paying();
        int[] ofTwo = {365, 450, 85, 280};
        int[] ofOne = {167, 200, 32, 135};
        for (int what = 0; what < 4; what++) {
            due(ofTwo[what], "price", 2, what);
            due(ofOne[what], "price", 1, what);
            due(LOST - 1, "price", 0, what);
            due(LOST - 1, "price", 3, what);
        }
        due(LOST - 2, "price", 2, -1);
        due(LOST - 2, "price", 2, 4);
        edge(41, "SHARE of the i-th HOLDING it is out of (0: the nearest); NONE (LOST less 6). UNKNOWN, STATE, likewise", "each");
        paying();
        due(26, "share", 2, 0);
        due(339, "share", 2, 1);
        due(167, "share", 1, 0);
        due(LOST - 6, "share", 2, 2);
        due(LOST - 6, "share", 2, -1);
        due(LOST - 6, "share", 1, 1);
        due(LOST - 1, "share", 0, 0);
        due(LOST - 1, "share", 3, 0);
        does("today", 18250);
        due(LOST - 3, "share", 2, 0);
        due(LOST - 3, "share", 2, 2);
    }

    // ---- 6 joining, breaches

    private static void joining() {
        edge(42, "Whether they may BUY: 1, 0. UNKNOWN: it is no WHOLE; OUTSIDE: PERSONS as bits", "each");
        flat();
        due(0, "may", 0, 2);
        law(3, 0, "f=1");
        due(1, "may", 0, 2);
        due(1, "may", 0, 1023);
        due(0, "may", 0, 0);
        due(0, "may", 0, 1);
        due(0, "may", 0, 1023 - 2);
        due(UNKNOWN, "may", 1, 2);
        due(UNKNOWN, "may", 2, 1024);
        due(OUTSIDE, "may", 0, 1024);
        due(OUTSIDE, "may", 0, -1);
        edge(43, "FEWEST MORE, as bits; NONE: none would do. UNKNOWN; OUTSIDE", "each");
        flat();
        due(NONE, "more", 0, 2);
        law(3, 0, "f=1");
        due(0, "more", 0, 2);
        due(2, "more", 0, 0);
        due(2, "more", 0, 1023 - 2);
        due(UNKNOWN, "more", 1, 0);
        due(UNKNOWN, "more", 2, 1024);
        due(OUTSIDE, "more", 0, 1024);
        due(OUTSIDE, "more", 0, -1);
    }

    private static void breaches() {
        edge(44, "BREACH (is = true), MENDED: 1 (0: it was so). UNKNOWN: also a WHOLE; STATE: not IN FORCE", "each twice");
        flat();
        due(0, "breach", 1, false);
        due(1, "breach", 1, true);
        due(0, "breach", 1, true);
        due(1, "breach", 1, false);
        due(0, "breach", 1, false);
        due(UNKNOWN, "breach", 0, true);
        due(UNKNOWN, "breach", 2, false);
        does("today", 1000);
        due(STATE, "breach", 1, true);
        due(STATE, "breach", 1, false);
        edge(45, "FORFEIT: how many FELL with it. UNKNOWN, STATE, likewise; NO", "those below those, those to come; not those over");
        house();
        due(3, "lease", 2, 1, 0, 40, 3);
        due(4, "lease", 1, 2, 100, 200, 4);
        due(5, "lease", 4, 2, 150, 160, 5);
        due(6, "lease", 1, 4, 0, 30, 6);
        due(7, "lease", 0, 1, 36500, 36600, 7);
        due(NO, "forfeit", 1);
        due(1, "breach", 1, true);
        does("today", 30);
        due(UNKNOWN, "forfeit", 0);
        due(UNKNOWN, "forfeit", 8);
        due(NO, "forfeit", 2);
        due(4, "forfeit", 1);
        due(STATE, "forfeit", 1);
        due(STATE, "forfeit", 2);
        int[] ways = {0, 2, 4, 4, 4, 4, 0, 0};
        int[] until = {73000, 30, 30, 30, 100, 150, 30, 36600};
        for (int i = 0; i < 8; i++) {
            due(ways[i], "about", i, WAY);
            due(until[i], "about", i, UNTIL);
        }
        edge(46, "RELIEF (its BREACH is MENDED): how many stand again, it counted. UNKNOWN: also a WHOLE; STATE: it was not "
            + "FORFEIT, or more than 180 days ago; NO: what it is out of is not IN FORCE, or has not its FLOORS, or one is "
            + "IN THE WAY", "one that fell, one that stands, a whole, the forfeit one");
        house();
        due(1, "breach", 1, true);
        does("today", 30);
        due(1, "forfeit", 1);
        due(UNKNOWN, "relieve", 0);
        due(UNKNOWN, "relieve", 3);
        due(STATE, "relieve", 2);
        due(3, "lease", 0, 4, 100, 110, 5);
        due(STATE, "relieve", 3);
        due(NO, "relieve", 1);
        does("today", 110);
        due(2, "relieve", 1);
        due(NONE, "about", 1, BREACH);
        due(NO, "forfeit", 1);
        due(STATE, "relieve", 1);
        due(3, "chain", 0, -1);
    }

    // ---- 7 the register

    private static void lines() {
        edge(47, "A LINE: its number. OUTSIDE: NAMES (also they are one), days, from not ahead of to; FULL", "each");
        due(0, "line", 0, 9, 0, 73000);
        due(1, "line", 9, 0, 5, 6);
        due(OUTSIDE, "line", 10, 0, 5, 6);
        due(OUTSIDE, "line", 0, 10, 5, 6);
        due(OUTSIDE, "line", -1, 0, 5, 6);
        due(OUTSIDE, "line", 0, -1, 5, 6);
        due(OUTSIDE, "line", 3, 3, 5, 6);
        due(OUTSIDE, "line", 0, 1, -1, 6);
        due(OUTSIDE, "line", 0, 1, 5, 73001);
        due(OUTSIDE, "line", 0, 1, 6, 6);
        due(OUTSIDE, "line", 0, 1, 7, 6);
        for (int i = 2; i < 12; i++) due(i, "line", 1, 2, 0, 1);
        due(FULL, "line", 1, 2, 0, 1);
        due(OUTSIDE, "line", 2, 2, 0, 1);
        edge(48, "Whether a set of LINES (bits) can be: 1, 0. OUTSIDE", "none, each, both, one that is not there");
        due(1, "can", 0);
        due(OUTSIDE, "can", 1);
        due(0, "line", 1, 2, 0, 9);
        due(1, "line", 2, 1, 0, 9);
        due(1, "can", 0);
        due(1, "can", 1);
        due(1, "can", 2);
        due(0, "can", 3);
        due(OUTSIDE, "can", 4);
        due(OUTSIDE, "can", -1);
        edge(50, "-1 TODAY, 0 HOLDINGS, 1 signs, 2 ACTS, 3 NOTICES, 4 points, 5 SALES, 6 LINES, 7 YP, 8 DEFER, 10 to 21 VALUES of "
            + "FLOORS, 30 to 41 WEIGHTS. OUTSIDE", "all unlike");
        house();
        law(0, 0, "f=1");
        law(1, 0, "f=1");
        say("l>77");
        due(0, "notice", 2, 0);
        for (int i = 1; i <= 5; i++) due(i, "point", i, i);
        for (int i = 1; i <= 6; i++) due(i, "sale", i, i);
        for (int i = 0; i < 7; i++) due(i, "line", i, 9, 0, 1);
        does("set", 0, 8);
        does("set", 1, 9);
        does("today", 10);
        for (int i = 0; i < 12; i++) {
            due(0, "value", i, 20 + i);
            due(1, "weight", i, 40 + i);
        }
        int[] told = {10, 3, 4, 2, 1, 5, 6, 7, 8, 9};
        for (int i = 0; i < 10; i++) due(told[i], "told", i - 1);
        for (int i = 0; i < 12; i++) {
            due(20 + i, "told", 10 + i);
            due(40 + i, "told", 30 + i);
        }
        for (int what : new int[] {-2, 9, 22, 29, 42, MOST, LEAST}) due(OUTSIDE, "told", what);
    }
}
