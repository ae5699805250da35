/** The edges of promises 12 to 23: rents, weights, signs, acts, rights, facts. */
final class EdgesOfRentsAndActsTest extends Edges {
    public static void main(String[] args) {
        rent();
        rate();
        owed();
        weight();
        say();
        wipe();
        fault();
        act();
        actRefused();
        right();
        actInForce();
        texts();
        decisive();
        fact();
        factYears();
        first();
        finish(12, 23);
    }

    /** A WHOLE 0 of floors 0 to 2, person 0; a LEASE 1 of all, days 0 to 36500, person 1; under it 2, days 0 to 3650. */
    private static void house() {
        due(0, "whole", 7, 0);
        due(1, "lease", 0, 7, 0, 36500, 1);
        due(2, "lease", 1, 1, 0, 3650, 2);
    }

    private static void rent() {
        edge(12, "an amount a YEAR (0 to 100000; 0 at first)", "below, first, last, beyond");
        house();
        due(OUTSIDE, "rent", 1, -1, 0);
        due(OUTSIDE, "rent", 1, 100001, 0);
        due(OUTSIDE, "rent", 1, MOST, 0);
        due(OUTSIDE, "rent", 1, LEAST, 0);
        due(0, "rent", 1, 100000, 0);
        due(100000, "rent", 1, 0, 0);
        due(0, "about", 1, AMOUNT);
        edge(12, "after how many YEARS (0: never; to 100) it doubles", "below, first, last, beyond");
        house();
        due(OUTSIDE, "rent", 1, 5, -1);
        due(OUTSIDE, "rent", 1, 5, 101);
        due(OUTSIDE, "rent", 1, 5, MOST);
        due(OUTSIDE, "rent", 1, 5, LEAST);
        due(0, "about", 1, AMOUNT);
        due(0, "rent", 1, 5, 100);
        due(100, "about", 1, DOUBLES);
        due(5, "rent", 1, 6, 0);
        due(0, "about", 1, DOUBLES);
        edge(12, "UNKNOWN: also it is a WHOLE", "a WHOLE, none");
        due(UNKNOWN, "rent", 0, 5, 5);
        house();
        due(UNKNOWN, "rent", 0, 5, 5);
        due(UNKNOWN, "rent", -1, 5, 5);
        due(UNKNOWN, "rent", 3, 5, 5);
        due(0, "rent", 2, 5, 5);
        edge(12, "RENT: which amount it was", "one that is not IN FORCE is not refused");
        house();
        does("lease", 1, 2, 10, 20, 3);
        due(0, "rent", 3, 8, 5);
        due(8, "rent", 3, 9, 5);
        does("end", 2, 1);
        due(0, "rent", 2, 8, 5);
        due(8, "about", 2, AMOUNT);
        edge(12, "the first of these that fits", "two reasons at once");
        house();
        due(UNKNOWN, "rent", 0, -1, 0);
        due(UNKNOWN, "rent", 3, 5, 101);
    }

    /** A LEASE 1 of floor 0 from day 10 to the END. */
    private static void longLease(int amount, int doubles) {
        due(0, "whole", 1, 0);
        due(1, "lease", 0, 1, 10, 73000, 1);
        due(0, "rent", 1, amount, doubles);
    }

    private static void rate() {
        edge(13, "UNKNOWN; OUTSIDE", "days -1 and 73001, 0 and 73000");
        longLease(3, 2);
        due(OUTSIDE, "rate", 1, -1);
        due(OUTSIDE, "rate", 1, 73001);
        due(OUTSIDE, "rate", 1, LEAST);
        due(OUTSIDE, "rate", 1, MOST);
        due(0, "rate", 1, 0);
        due(0, "rate", 1, 73000);
        again("no HOLDING");
        due(UNKNOWN, "rate", 0, 5);
        longLease(3, 2);
        due(UNKNOWN, "rate", -1, 5);
        due(UNKNOWN, "rate", 2, 5);
        edge(13, "the first of these that fits", "two reasons at once");
        due(UNKNOWN, "rate", 0, -1);
        due(UNKNOWN, "rate", -1, 73001);
        edge(13, "(0, if it is not IN FORCE)", "from and the day ahead, UNTIL and the day ahead");
        longLease(3, 0);
        due(0, "rate", 1, 9);
        due(3, "rate", 1, 10);
        due(3, "rate", 1, 72999);
        due(0, "rate", 1, 73000);
        again("it ended");
        longLease(3, 0);
        does("today", 50);
        does("end", 1, 1);
        due(3, "rate", 1, 49);
        due(0, "rate", 1, 50);
        again("a WHOLE has no RENT");
        longLease(3, 0);
        due(0, "rate", 0, 10);
        edge(13, "counted from the LEASE's from", "the day ahead, the day it doubles");
        longLease(3, 2);
        due(3, "rate", 1, 739);
        due(6, "rate", 1, 740);
        due(6, "rate", 1, 1469);
        due(12, "rate", 1, 1470);
        edge(13, "again and again, 10 times at most", "9, 10 and no 11 times");
        longLease(3, 2);
        due(3 * 512, "rate", 1, 10 + 7300 - 1);
        due(3 * 1024, "rate", 1, 10 + 7300);
        due(3 * 1024, "rate", 1, 10 + 8030 - 1);
        due(3 * 1024, "rate", 1, 10 + 8030);
        due(3 * 1024, "rate", 1, 72999);
        again("the greatest");
        longLease(100000, 1);
        due(51200000, "rate", 1, 10 + 3650 - 1);
        due(102400000, "rate", 1, 10 + 3650);
        due(102400000, "rate", 1, 72999);
        edge(13, "after how many YEARS (0: never; to 100) it doubles", "never; after 100");
        longLease(3, 0);
        due(3, "rate", 1, 10 + 3650);
        due(3, "rate", 1, 72999);
        again("after 100");
        longLease(3, 100);
        due(3, "rate", 1, 10 + 36500 - 1);
        due(6, "rate", 1, 10 + 36500);
        due(6, "rate", 1, 72999);
    }

    private static void owed() {
        edge(14, "UNKNOWN, OUTSIDE: days, the first behind the second (LOST less 1, 2)", "-1, 73001, 0 and 73000");
        longLease(365, 0);
        due(LOST - 2, "owed", 1, -1, 5);
        due(LOST - 2, "owed", 1, 5, 73001);
        due(LOST - 2, "owed", 1, LEAST, 5);
        due(LOST - 2, "owed", 1, 5, MOST);
        due(LOST - 2, "owed", 1, -2, -1);
        due(LOST - 2, "owed", 1, 73001, 73001);
        due(72990, "owed", 1, 0, 73000);
        due(0, "owed", 1, 73000, 73000);
        again("the first behind the second, the same, ahead of it");
        longLease(365, 0);
        due(LOST - 2, "owed", 1, 100, 99);
        due(LOST - 2, "owed", 1, 73000, 0);
        due(0, "owed", 1, 100, 100);
        due(1, "owed", 1, 100, 101);
        again("no HOLDING");
        due(LOST - 1, "owed", 0, 5, 6);
        longLease(365, 0);
        due(LOST - 1, "owed", -1, 5, 6);
        due(LOST - 1, "owed", 2, 5, 6);
        again("two reasons at once");
        longLease(365, 0);
        due(LOST - 1, "owed", 2, 6, 5);
        due(LOST - 1, "owed", -1, -1, 5);
        edge(14, "RATES of all days on which it is IN FORCE", "from and UNTIL");
        does("whole", 1, 0);
        does("lease", 0, 1, 100, 1000, 1);
        does("rent", 1, 365, 0);
        due(0, "owed", 1, 99, 100);
        due(1, "owed", 1, 99, 101);
        due(1, "owed", 1, 999, 1001);
        due(0, "owed", 1, 1000, 1001);
        due(900, "owed", 1, 0, 73000);
        due(0, "owed", 1, 0, 50);
        due(0, "owed", 1, 2000, 3000);
        again("till it ended");
        longLease(365, 0);
        does("today", 155);
        does("end", 1, 1);
        due(5, "owed", 1, 150, 160);
        due(145, "owed", 1, 0, 73000);
        due(0, "owed", 1, 155, 160);
        again("the same, doubling");
        longLease(365, 1);
        does("today", 380);
        does("end", 1, 1);
        due(5 + 5 * 2, "owed", 1, 370, 390);
        due(0, "owed", 1, 380, 800);
        again("a WHOLE has no RENT");
        longLease(365, 0);
        due(0, "owed", 0, 0, 73000);
        edge(14, "together, by 365, cut once", "days of one RATE, of two");
        longLease(364, 1);
        due(0, "owed", 1, 10, 11);
        due(1, "owed", 1, 10, 12);
        due(2, "owed", 1, 374, 376);
        due(364, "owed", 1, 10, 375);
        due(364 + 728, "owed", 1, 10, 740);
        again("never doubling");
        longLease(364, 0);
        due(0, "owed", 1, 10, 11);
        due(1, "owed", 1, 10, 12);
        edge(14, "10 times at most", "the 10th, no 11th, all, beyond an int");
        longLease(365, 2);
        due(512 + 1024, "owed", 1, 10 + 7300 - 1, 10 + 7300 + 1);
        due(1024 + 1024, "owed", 1, 10 + 8030 - 1, 10 + 8030 + 1);
        again("all");
        does("whole", 1, 0);
        does("lease", 0, 1, 0, 73000, 1);
        does("rent", 1, 100000, 1);
        due(100000L * 1023 + 102400000L * 190, "owed", 1, 0, 73000);
    }

    private static void weight() {
        edge(15, "WEIGHTS of FLOORS (1 to 100; 1 at first)", "below, first, last, beyond");
        due(1, "told", 30);
        due(OUTSIDE, "weight", 0, 0);
        due(OUTSIDE, "weight", 0, -1);
        due(OUTSIDE, "weight", 0, 101);
        due(OUTSIDE, "weight", 0, MOST);
        due(OUTSIDE, "weight", 0, LEAST);
        due(1, "weight", 0, 100);
        due(100, "weight", 0, 1);
        due(1, "told", 30);
        edge(15, "UNKNOWN; OUTSIDE", "floors -1 and 12, 0 and 11");
        due(UNKNOWN, "weight", -1, 5);
        due(UNKNOWN, "weight", 12, 5);
        due(UNKNOWN, "weight", MOST, 5);
        due(UNKNOWN, "weight", LEAST, 5);
        due(1, "weight", 0, 5);
        due(1, "weight", 11, 6);
        due(6, "told", 41);
        edge(15, "the first of these that fits", "two reasons at once");
        due(UNKNOWN, "weight", 12, 0);
        due(UNKNOWN, "weight", -1, 101);
    }

    private static void say() {
        edge(16, "(codes 33 to 126)", "32, 33, 126, 127");
        due(OUTSIDE, "say", 32);
        due(OUTSIDE, "say", 127);
        due(OUTSIDE, "say", 0);
        due(OUTSIDE, "say", -1);
        due(OUTSIDE, "say", 65536 + 'l');
        due(OUTSIDE, "say", MOST);
        due(OUTSIDE, "say", LEAST);
        due(1, "say", 33);
        due(2, "say", 126);
        edge(16, "ACTS are texts of up to 48 signs", "the 48th and the 49th");
        for (int i = 1; i <= 48; i++) due(i, "say", (int) '!');
        due(FULL, "say", (int) '!');
        due(48, "told", 1);
        due(48, "fault");
        edge(16, "the first of these that fits", "OUTSIDE and FULL");
        for (int i = 1; i <= 48; i++) does("say", (int) '!');
        due(OUTSIDE, "say", 32);
        due(OUTSIDE, "say", 127);
        due(FULL, "say", 33);
    }

    private static void wipe() {
        edge(17, "Signs go: how many there were", "none, one, 48");
        due(0, "wipe");
        does("say", 40);
        due(1, "wipe");
        due(0, "told", 1);
        due(0, "wipe");
        for (int i = 1; i <= 48; i++) does("say", 40);
        due(48, "wipe");
        due(1, "say", (int) 'l');
        due(1, "fault");
        again("an ACT leaves none");
        law(0, 0, "l<9");
        due(0, "wipe");
    }

    private static void fault(int place, String text) {
        does("wipe");
        say(text);
        due(place, "fault");
    }

    /** Each sign behind a text: which may stand there, and which of those make a text whole. */
    private static void behind(String text, String may, String whole) {
        for (int sign = 33; sign < 127; sign++) {
            if (sign % 32 == 1) again("each sign behind '" + text + "', " + sign + " and up");
            boolean isWhole = whole.indexOf(sign) >= 0, goesOn = may.indexOf(sign) >= 0;
            fault(isWhole ? NONE : goesOn ? text.length() + 1 : text.length(), text + (char) sign);
        }
    }

    private static void fault() {
        edge(18, "THE FAULT of the signs that are there; NONE", "whole texts");
        fault(NONE, "l<9");
        fault(NONE, "!!!l<9");
        fault(NONE, "((l<9))");
        fault(NONE, "l<9&t>8|h=7");
        fault(NONE, "(l<9|!(t>8))&h=7");
        fault(NONE, "l<1|l<1|l<1|l<1|l<1|l<1|l<1|l<1|l<1|l<1|l<1|l<12");
        edge(18, "behind the last sign: their number", "none so far, texts that are not whole");
        due(0, "fault");
        fault(1, "l");
        fault(2, "l<");
        fault(4, "l<9&");
        fault(4, "l<9|");
        fault(1, "!");
        fault(1, "(");
        fault(4, "(l<9");
        fault(6, "((l<9)");
        fault(48, "l<1|l<1|l<1|l<1|l<1|l<1|l<1|l<1|l<1|l<1|l<1|l<1&");
        edge(18, "at which no sign could make a text go on as it stands", "the first of two such places");
        fault(0, "xx");
        fault(2, "l<x)");
        fault(3, "l<9)x");
        fault(3, "l<9!l<9");
        fault(1, "ll<9");
        edge(18, "a number of 1 to 5 digits", "none, one, five, six");
        fault(2, "l<");
        fault(NONE, "l<0");
        fault(NONE, "l<99999");
        fault(7, "l<999999");
        fault(7, "l<000000");
        fault(2, "l<&");
        edge(18, "( text )", "brackets that do not fit");
        fault(3, "l<9)");
        fault(5, "(l<9))");
        fault(1, "()");
        fault(2, "(()");
        fault(5, "(l<9)(");
        fault(NONE, "(((((((((((((((((((((l<9)))))))))))))))))))))");
        fault(45, "(((((((((((((((((((((l<9))))))))))))))))))))))");
        edge(18, "F is !F, or ( text ), or a FACT, one of < > =, and a number of 1 to 5 digits", "sign by sign");
        String factor = "!(lthrfos";
        behind("", factor, "");
        behind("!", factor, "");
        behind("(", factor, "");
        behind("f=1&", factor, "");
        behind("f=1|", factor, "");
        for (char fact : "lthrfos".toCharArray()) behind("" + fact, "<>=", "");
        behind("f<", "", "0123456789");
        behind("f>", "", "0123456789");
        behind("f=", "", "0123456789");
        behind("f=1", "&|", "0123456789");
        behind("f=12345", "&|", "");
        behind("(f=1", "&|0123456789", ")");
        behind("(f=1)", "&|", "");
    }

    private static void act() {
        edge(19, "KINDS: 0 LONGER, 1 BUY, 2 STAY, 3 JOIN", "-1, 0, 3, 4");
        say("l<9");
        due(UNKNOWN, "act", -1, 0);
        due(UNKNOWN, "act", 4, 0);
        due(UNKNOWN, "act", LEAST, 0);
        due(UNKNOWN, "act", MOST, 0);
        due(1, "act", 0, 0);
        say("l<9");
        due(2, "act", 3, 0);
        edge(19, "DAYS are 0 to 73000 (the END)", "-1, 0, 73000, 73001");
        say("l<9");
        due(OUTSIDE, "act", 0, -1);
        due(OUTSIDE, "act", 0, 73001);
        due(OUTSIDE, "act", 0, LEAST);
        due(OUTSIDE, "act", 0, MOST);
        due(1, "act", 0, 0);
        say("l<9");
        due(2, "act", 0, 73000);
        again("a day ahead of TODAY is none of these");
        does("today", 10);
        say("l<9");
        due(1, "act", 0, 9);
        edge(19, "how many ACTS (12 at most)", "the 12th and the 13th");
        for (int i = 1; i <= 12; i++) {
            say("l<9");
            due(i, "act", i % 4, 0);
        }
        say("l<9");
        due(FULL, "act", 0, 0);
        due(3, "told", 1);
        due(12, "told", 2);
        edge(19, "NO: there is a FAULT", "none so far, not whole, one sign too many");
        due(NO, "act", 0, 0);
        say("l<");
        due(NO, "act", 0, 0);
        say("9");
        due(1, "act", 0, 0);
        say("l<9)");
        due(NO, "act", 0, 0);
        due(4, "told", 1);
        edge(19, "(they are empty then)", "as they were, if it is refused");
        say("l<9");
        due(1, "act", 0, 0);
        due(0, "told", 1);
        due(NO, "act", 0, 0);
        edge(19, "ACTS are texts of up to 48 signs", "48");
        say("l<1|l<1|l<1|l<1|l<1|l<1|l<1|l<1|l<1|l<1|l<1|l<12");
        due(FULL, "say", (int) '3');
        due(1, "act", 0, 0);
        does("whole", 1, 0);
        due(0, "right", 0, 0);
    }

    private static void actRefused() {
        edge(19, "the first of these that fits", "two reasons at once");
        due(UNKNOWN, "act", 4, 73001);
        due(UNKNOWN, "act", -1, 0);
        due(OUTSIDE, "act", 0, -1);
        for (int i = 1; i <= 12; i++) law(0, 0, "l<9");
        due(FULL, "act", 0, 0);
        due(OUTSIDE, "act", 0, 73001);
        due(UNKNOWN, "act", 4, 0);
    }

    private static void right() {
        for (String asked : new String[] {"right", "decisive"}) {
            int promise = asked.equals("right") ? 20 : 21;
            edge(promise, "UNKNOWN -1 (there is no such HOLDING", asked + ": HOLDINGS and KINDS, first, last, beyond");
            for (int kind = 0; kind < 4; kind++) law(kind, 0, "f>0");
            due(UNKNOWN, asked, 0, 0);
            house();
            due(UNKNOWN, asked, -1, 0);
            due(UNKNOWN, asked, 3, 0);
            due(UNKNOWN, asked, 2, -1);
            due(UNKNOWN, asked, 2, 4);
            due(UNKNOWN, asked, 2, MOST);
            due(UNKNOWN, asked, 2, LEAST);
            due(1, asked, 0, 0);
            due(1, asked, 2, 3);
            edge(promise, "A HOLDING IN FORCE on a day has the RIGHT", asked + ": STATE ahead of its from and from UNTIL on");
            law(1, 0, "f>0");
            does("whole", 1, 0);
            does("lease", 0, 1, 10, 20, 1);
            does("today", 9);
            due(STATE, asked, 1, 1);
            does("today", 10);
            due(1, asked, 1, 1);
            does("today", 19);
            due(1, asked, 1, 1);
            does("today", 20);
            due(STATE, asked, 1, 1);
            again("a WHOLE on the END");
            law(1, 0, "f>0");
            does("whole", 1, 0);
            does("today", 72999);
            due(1, asked, 0, 1);
            does("today", 73000);
            due(STATE, asked, 0, 1);
            edge(promise, "ACT is in force on a day", asked + ": NONE without an ACT of that KIND, or ahead of its day");
            house();
            due(NONE, asked, 1, 1);
            law(0, 0, "f>0");
            law(1, 8, "f>0");
            due(1, asked, 1, 0);
            due(NONE, asked, 1, 1);
            does("today", 7);
            due(NONE, asked, 1, 1);
            does("today", 8);
            due(1, asked, 1, 1);
            edge(promise, "the first of these that fits", asked + ": two reasons at once");
            due(UNKNOWN, asked, 0, 4);
            does("whole", 1, 0);
            does("lease", 0, 1, 10, 20, 1);
            due(UNKNOWN, asked, 1, 4);
            due(UNKNOWN, asked, 0, -1);
            due(STATE, asked, 1, 0);
            law(0, 0, "f>0");
            due(STATE, asked, 1, 0);
            due(UNKNOWN, asked, 2, 0);
        }
        edge(20, "1, 0; NONE: there is no ACT", "1 and 0");
        house();
        law(0, 0, "f=3");
        due(1, "right", 0, 0);
        due(1, "right", 1, 0);
        due(0, "right", 2, 0);
    }

    private static void actInForce() {
        String latest = "that ACT is in force on a day that has the latest day of its own not later (of one day the last told)";
        edge(20, latest, "of two days the later, whichever was told first");
        house();
        law(0, 10, "f=3");
        law(0, 5, "f=1");
        does("today", 9);
        due(1, "right", 2, 0);
        due(0, "right", 1, 0);
        does("today", 10);
        due(0, "right", 2, 0);
        due(1, "right", 1, 0);
        again("told in the other order");
        house();
        law(0, 5, "f=1");
        law(0, 10, "f=3");
        does("today", 9);
        due(1, "right", 2, 0);
        does("today", 10);
        due(0, "right", 2, 0);
        again("of one day the last told");
        house();
        law(0, 5, "f=1");
        law(0, 5, "f=9");
        law(0, 5, "f=3");
        does("today", 5);
        due(0, "right", 2, 0);
        due(1, "right", 1, 0);
        again("another KIND changes nothing");
        house();
        law(0, 5, "f=1");
        law(1, 6, "f=3");
        does("today", 6);
        due(1, "right", 2, 0);
        due(0, "right", 2, 1);
    }

    private static void so(int want, String text) {
        again(text);
        due(0, "whole", 7, 0);
        due(1, "lease", 0, 7, 0, 36500, 1);
        law(0, 0, text);
        due(want, "right", 1, 0);
    }

    private static void texts() {
        edge(20, "one of < > =", "one below, the same, one above");
        so(0, "f<2");
        so(0, "f<3");
        so(1, "f<4");
        so(1, "f>2");
        so(0, "f>3");
        so(0, "f>4");
        so(0, "f=2");
        so(1, "f=3");
        so(0, "f=4");
        edge(20, "a number of 1 to 5 digits", "as decimals");
        so(1, "f=00003");
        so(0, "f=30");
        so(1, "t<99999");
        so(1, "t=100");
        so(1, "t=00100");
        so(0, "t=10");
        edge(20, "A text is one of: T, or T | and such a text; T is F, or F & and a T", "which binds more");
        so(1, "f=3|f=4&f=5");
        so(1, "f=4&f=5|f=3");
        so(0, "(f=3|f=4)&f=5");
        so(0, "f=4|f=3&f=5");
        so(1, "f=4|f=5|f=3");
        so(0, "f=3&f=3&f=4");
        so(1, "f=4&f=3|f=3&f=3");
        edge(20, "F is !F", "it turns one F alone");
        so(1, "!f=4");
        so(0, "!f=3");
        so(1, "!!f=3");
        so(0, "!!!f=3");
        so(0, "!f=4&f=4");
        so(1, "!f=3|f=3");
        so(0, "!(f=4|f=3)");
        so(1, "!(f=3&f=4)");
        so(1, "!(f=4)&f=3");
        so(1, "(!f=4)");
        so(0, "!(!f=4)");
        edge(20, "( text )", "deep ones, and what stands ahead of them");
        so(1, "(((((((((((((((((((((f=3)))))))))))))))))))))");
        so(0, "f=4&(f=3|f=3)");
        so(1, "f=3|(f=4&f=4)");
        so(1, "(f=3)&(f=3|f=4)");
        so(0, "f=3&(f=4|(f=4|f=4))|f=4");
        so(1, "f=4&(f=4)|(f=3)");
        so(1, "!(f=4|!(f=3&!(f=4)))");
    }

    private static void bits(long want, String text) {
        again(text);
        due(0, "whole", 7, 0);
        due(1, "lease", 0, 7, 0, 36500, 1);
        law(0, 0, text);
        due(want, "decisive", 1, 0);
    }

    private static void decisive() {
        edge(21, "each of which, were it alone otherwise, would turn that", "none, one, some, all");
        bits(1, "f=3");
        bits(1, "f=4");
        bits(1, "!f=4");
        bits(3, "f=3&t=100");
        bits(0, "f=3|t=100");
        bits(0, "f=4&t=9");
        bits(3, "f=4|t=9");
        bits(2, "f=3&t=9");
        bits(1, "f=3|t=9");
        bits(4, "f=3&t=9|f=3");
        bits(5, "f=3&(t=9|f=3)");
        bits(3, "f=4|t=9|f=4&f=4");
        bits(0, "f=4|f=3|f=3");
        edge(21, "(numbered from 0 on as they stand)", "the first, the last of twelve");
        bits(1, "f=3|f=4|f=4|f=4|f=4|f=4|f=4|f=4|f=4|f=4|f=4|f=4");
        bits(2048, "f=4|f=4|f=4|f=4|f=4|f=4|f=4|f=4|f=4|f=4|f=4|f=3");
        bits(4095, "f=4|f=4|f=4|f=4|f=4|f=4|f=4|f=4|f=4|f=4|f=4|f=4");
        bits(2, "(f=4|(f=3))");
        edge(21, "comparisons of it", "of the ACT in force alone");
        house();
        law(0, 5, "f=3&f=3&f=3");
        law(0, 0, "f=3");
        due(1, "decisive", 1, 0);
        does("today", 5);
        due(7, "decisive", 1, 0);
    }

    private static void fact() {
        edge(22, "OUTSIDE: the sign", "each of 33 to 126, and beyond");
        house();
        for (int sign = 33; sign < 127; sign++) {
            if ("lthrfos".indexOf(sign) < 0) due(OUTSIDE, "fact", 1, sign);
        }
        due(OUTSIDE, "fact", 1, 0);
        due(OUTSIDE, "fact", 1, -1);
        due(OUTSIDE, "fact", 1, 65536 + 'l');
        due(OUTSIDE, "fact", 1, MOST);
        due(OUTSIDE, "fact", 1, LEAST);
        edge(22, "A FACT (its sign) of a HOLDING", "each sign");
        house();
        does("rent", 1, 77, 0);
        due(100, "fact", 1, (int) 'l');
        due(100, "fact", 1, (int) 't');
        due(0, "fact", 1, (int) 'h');
        due(77, "fact", 1, (int) 'r');
        due(3, "fact", 1, (int) 'f');
        due(1, "fact", 1, (int) 'o');
        due(0, "fact", 1, (int) 's');
        edge(22, "UNKNOWN", "no HOLDING");
        due(UNKNOWN, "fact", 0, (int) 'l');
        house();
        due(UNKNOWN, "fact", -1, (int) 'l');
        due(UNKNOWN, "fact", 3, (int) 'l');
        edge(22, "STATE: not IN FORCE", "the day ahead of its from, its from, the day ahead of UNTIL, UNTIL");
        does("whole", 1, 0);
        does("lease", 0, 1, 10, 20, 1);
        does("today", 9);
        due(STATE, "fact", 1, (int) 'f');
        does("today", 10);
        due(1, "fact", 1, (int) 'f');
        does("today", 19);
        due(1, "fact", 1, (int) 'f');
        does("today", 20);
        due(STATE, "fact", 1, (int) 'f');
        edge(22, "the first of these that fits", "two reasons at once");
        due(UNKNOWN, "fact", 0, (int) 'x');
        does("whole", 1, 0);
        does("lease", 0, 1, 10, 20, 1);
        due(OUTSIDE, "fact", 1, (int) 'x');
        due(STATE, "fact", 1, (int) 'l');
    }

    private static void factYears() {
        edge(22, "l YEARS left (UNTIL less the day, by 365)", "730, 729, 365, 364, 1 days");
        does("whole", 1, 0);
        does("lease", 0, 1, 0, 1000, 1);
        does("today", 270);
        due(2, "fact", 1, (int) 'l');
        does("today", 271);
        due(1, "fact", 1, (int) 'l');
        does("today", 635);
        due(1, "fact", 1, (int) 'l');
        does("today", 636);
        due(0, "fact", 1, (int) 'l');
        does("today", 999);
        due(0, "fact", 1, (int) 'l');
        due(197, "fact", 0, (int) 'l');
        edge(22, "t YEARS of its term (to less from)", "364, 365, 729, 730 days, whatever the day");
        does("whole", 15, 0);
        does("lease", 0, 1, 10, 374, 1);
        does("lease", 0, 2, 10, 375, 1);
        does("lease", 0, 4, 10, 739, 1);
        does("lease", 0, 8, 10, 740, 1);
        does("today", 300);
        due(0, "fact", 1, (int) 't');
        due(1, "fact", 2, (int) 't');
        due(1, "fact", 3, (int) 't');
        due(2, "fact", 4, (int) 't');
        due(200, "fact", 0, (int) 't');
        edge(22, "h YEARS since it has its PERSON", "364 and 365 days; sold");
        does("whole", 1, 0);
        does("lease", 0, 1, 10, 1000, 1);
        does("today", 374);
        due(0, "fact", 1, (int) 'h');
        does("today", 375);
        due(1, "fact", 1, (int) 'h');
        does("sell", 1, 2);
        due(0, "fact", 1, (int) 'h');
        does("today", 739);
        due(0, "fact", 1, (int) 'h');
        does("today", 740);
        due(1, "fact", 1, (int) 'h');
        edge(22, "f how many FLOORS", "one, twelve");
        does("whole", 4095, 0);
        does("lease", 0, 2048, 0, 10, 1);
        due(12, "fact", 0, (int) 'f');
        due(1, "fact", 1, (int) 'f');
        edge(22, "o how many HOLDINGS it is out of (one above the other)", "0, 1, 39");
        does("whole", 1, 0);
        for (int i = 1; i < 40; i++) does("lease", i - 1, 1, 0, 100, 1);
        due(0, "fact", 0, (int) 'o');
        due(1, "fact", 1, (int) 'o');
        due(39, "fact", 39, (int) 'o');
        edge(22, "s 1, if its PERSON LIVES on one of its FLOORS, else 0", "nowhere, first, last, another, another PERSON");
        does("whole", 4095, 0);
        does("lease", 0, 2049, 0, 10, 1);
        due(0, "fact", 1, (int) 's');
        does("live", 1, 0);
        due(1, "fact", 1, (int) 's');
        does("live", 1, 11);
        due(1, "fact", 1, (int) 's');
        does("live", 1, 1);
        due(0, "fact", 1, (int) 's');
        does("live", 1, -1);
        does("live", 0, 0);
        due(0, "fact", 1, (int) 's');
        due(1, "fact", 0, (int) 's');
        does("sell", 1, 0);
        due(1, "fact", 1, (int) 's');
        edge(22, "r RATE", "on the day, as it doubles");
        does("whole", 1, 0);
        does("lease", 0, 1, 10, 1000, 1);
        does("rent", 1, 8, 1);
        does("today", 374);
        due(8, "fact", 1, (int) 'r');
        does("today", 375);
        due(16, "fact", 1, (int) 'r');
        due(0, "fact", 0, (int) 'r');
    }

    private static void first() {
        String looked = "(1000 are looked at, up to the END)";
        edge(23, looked, "the 1000th, the 1001st");
        does("whole", 1, 0);
        law(0, 1000, "f>0");
        due(NONE, "first", 0, 0);
        does("today", 1);
        due(1000, "first", 0, 0);
        does("today", 1000);
        due(1000, "first", 0, 0);
        does("today", 1001);
        due(1001, "first", 0, 0);
        again("up to the END");
        does("whole", 1, 0);
        law(0, 72999, "f>0");
        law(1, 73000, "f>0");
        does("today", 72001);
        due(72999, "first", 0, 0);
        due(NONE, "first", 0, 1);
        does("today", 72999);
        due(72999, "first", 0, 0);
        due(NONE, "first", 0, 1);
        does("today", 73000);
        due(NONE, "first", 0, 0);
        due(NONE, "first", 0, 1);
        edge(23, "on which a HOLDING has a RIGHT, all else as it is; NONE", "from, the day ahead of UNTIL, no ACT, never");
        does("whole", 1, 0);
        does("lease", 0, 1, 10, 800, 1);
        due(NONE, "first", 1, 0);
        law(0, 0, "f>0");
        law(1, 799, "f>0");
        law(2, 800, "f>0");
        law(3, 0, "f>9");
        due(10, "first", 1, 0);
        due(799, "first", 1, 1);
        due(NONE, "first", 1, 2);
        due(NONE, "first", 1, 3);
        due(799, "first", 0, 1);
        due(800, "first", 0, 2);
        does("today", 20);
        due(20, "first", 1, 0);
        does("today", 799);
        due(799, "first", 1, 0);
        does("today", 800);
        due(NONE, "first", 1, 0);
        again("an ACT of a later day takes the RIGHT away, or gives it");
        does("whole", 1, 0);
        law(0, 0, "f=1");
        law(0, 5, "f=9");
        law(0, 50, "f=1");
        due(0, "first", 0, 0);
        does("today", 4);
        due(4, "first", 0, 0);
        does("today", 5);
        due(50, "first", 0, 0);
        again("FACTS are those of the day");
        does("whole", 1, 0);
        does("lease", 0, 1, 10, 1000, 1);
        does("rent", 1, 8, 1);
        law(0, 0, "r>8");
        law(1, 0, "l<1");
        law(2, 0, "h=1");
        law(3, 0, "o=1&h=2");
        due(375, "first", 1, 0);
        due(636, "first", 1, 1);
        due(375, "first", 1, 2);
        due(740, "first", 1, 3);
        edge(23, "UNKNOWN", "HOLDINGS and KINDS, first, last, beyond");
        for (int kind = 0; kind < 4; kind++) law(kind, 0, "f>0");
        due(UNKNOWN, "first", 0, 0);
        does("whole", 1, 0);
        due(UNKNOWN, "first", -1, 0);
        due(UNKNOWN, "first", 1, 0);
        due(UNKNOWN, "first", 0, -1);
        due(UNKNOWN, "first", 0, 4);
        due(UNKNOWN, "first", 0, MOST);
        due(UNKNOWN, "first", 0, LEAST);
        due(0, "first", 0, 0);
        due(0, "first", 0, 3);
    }
}
