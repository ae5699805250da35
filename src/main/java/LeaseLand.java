import java.util.Arrays;

/** Leaseholds of a city's floors. What each call does stands in ../shared/DOC.md, promise by promise. */
public final class LeaseLand {
    public static final int UNKNOWN = -1, OUTSIDE = -2, STATE = -3, FULL = -4, NO = -5, NONE = -6;
    public static final long LOST = -1000000000000000L;
    public static final int END = 73000, LONG = 32850;

    private static final int YEAR = 365, FLOORS = 12, PERSONS = 10, KINDS = 4, FINE = 0;
    private static final int MOST_HOLDINGS = 40, MOST_SIGNS = 48, MOST_ACTS = 12, MOST_NOTICES = 24;
    private static final int MOST_POINTS = 10, MOST_SALES = 20, MOST_LINES = 12;
    private static final int STANDS = 0, GIVEN_UP = 1, FORFEITED = 2, MERGED = 3, FELL = 4, BOUGHT_OUT = 5;
    private static final int LONGER = 0, BUY = 1, STAY = 2, JOIN = 3;
    private static final int OPEN = 0, AGREED = 1, REFUSED = 2, WITHDRAWN = 3, DONE = 4, BEATEN = 5;
    private static final int FAR_YEARS = 200, WHOLE_PART = 10000, LACK = -200;

    private final Land land = new Land();
    private final Acts acts = new Acts();
    private final Reading reading = new Reading();
    private final Notices notices = new Notices();
    private final Market market = new Market();
    private final Sales sales = new Sales();
    private final Register register = new Register();
    private final int[] joined = new int[PERSONS];

    public LeaseLand() {
    }

    // ---- 1 holdings

    public int today(int day) {
        if (!isDay(day) || day < land.today) {
            return OUTSIDE;
        }
        int before = land.today;
        land.today = day;
        return before;
    }

    public int whole(int floors, int person) {
        if (!isPerson(person)) {
            return UNKNOWN;
        }
        if (!isFloors(floors)) {
            return OUTSIDE;
        }
        if (land.isFull()) {
            return FULL;
        }
        if (land.isOwned(floors)) {
            return NO;
        }
        return land.add(new Holding(null, floors, 0, END, person, land.today));
    }

    public int lease(int out, int floors, int from, int to, int person) {
        Holding above = land.find(out);
        int refusal = refusalOfGrant(above, floors, from, to, person);
        if (refusal != FINE) {
            return refusal;
        }
        if (!land.canGrant(above, floors, from, to)) {
            return NO;
        }
        return land.add(new Holding(above, floors, from, to, person, from));
    }

    public int between(int out, int floors, int from, int to, int person) {
        Holding above = land.find(out);
        int refusal = refusalOfGrant(above, floors, from, to, person);
        if (refusal != FINE) {
            return refusal;
        }
        if (!land.canPutBetween(above, floors, from, to)) {
            return NO;
        }
        return land.putBetween(new Holding(above, floors, from, to, person, from));
    }

    private int refusalOfGrant(Holding above, int floors, int from, int to, int person) {
        if (above == null || !isPerson(person)) {
            return UNKNOWN;
        }
        if (!isFloors(floors) || from < land.today || from >= to || to > END) {
            return OUTSIDE;
        }
        return land.isFull() ? FULL : FINE;
    }

    public int sell(int holding, int person) {
        Holding sold = land.find(holding);
        if (sold == null || !isPerson(person)) {
            return UNKNOWN;
        }
        if (!land.isInForce(sold)) {
            return STATE;
        }
        int before = sold.person;
        sold.person = person;
        sold.since = land.today;
        return before;
    }

    public int part(int holding, int floors, int person) {
        Holding old = land.findLease(holding);
        if (old == null || !isPerson(person)) {
            return UNKNOWN;
        }
        if (!isFloors(floors)) {
            return OUTSIDE;
        }
        if (!land.isInForce(old)) {
            return STATE;
        }
        if (land.isFull()) {
            return FULL;
        }
        return land.canSplit(old, floors) ? land.split(old, floors, person) : NO;
    }

    public int end(int holding, int way) {
        Holding ending = land.find(holding);
        if (ending == null || ending.out == null) {
            return UNKNOWN;
        }
        if (way != GIVEN_UP && way != MERGED) {
            return OUTSIDE;
        }
        if (!land.isInForce(ending)) {
            return STATE;
        }
        if (way == MERGED && ending.person != ending.out.person) {
            return NO;
        }
        land.close(ending, way);
        return land.handOver(ending, ending.out);
    }

    public int about(int holding, int what) {
        Holding asked = land.find(holding);
        if (asked == null) {
            return UNKNOWN;
        }
        switch (what) {
            case 0: return asked.out == null ? -1 : asked.out.number;
            case 1: return asked.floors;
            case 2: return asked.from;
            case 3: return asked.to;
            case 4: return asked.until();
            case 5: return asked.way;
            case 6: return asked.person;
            case 7: return asked.since;
            case 8: return asked.amount;
            case 9: return asked.doubles;
            case 10: return asked.breach;
            case 11: return land.countOutOf(asked);
            default: return OUTSIDE;
        }
    }

    public int chain(int floor, int i) {
        if (!isFloor(floor)) {
            return UNKNOWN;
        }
        int place = 0;
        for (Holding at = land.nextOf(null, floor); at != null && place < MOST_HOLDINGS; at = land.nextOf(at, floor)) {
            if (place == i) {
                return at.number;
            }
            place++;
        }
        return i == -1 ? place : NONE;
    }

    public int live(int person, int floor) {
        if (!isPerson(person) || floor != -1 && !isFloor(floor)) {
            return UNKNOWN;
        }
        int before = land.homes[person];
        land.homes[person] = floor == -1 ? NONE : floor;
        return before;
    }

    // ---- 2 rents

    public int rent(int holding, int amount, int doubles) {
        Holding let = land.findLease(holding);
        if (let == null) {
            return UNKNOWN;
        }
        if (amount < 0 || amount > 100000 || doubles < 0 || doubles > 100) {
            return OUTSIDE;
        }
        int before = let.amount;
        let.amount = amount;
        let.doubles = doubles;
        return before;
    }

    public int rate(int holding, int day) {
        Holding let = land.find(holding);
        if (let == null) {
            return UNKNOWN;
        }
        return isDay(day) ? let.rateOn(day) : OUTSIDE;
    }

    public long owed(int holding, int from, int to) {
        Holding let = land.find(holding);
        if (let == null) {
            return lost(UNKNOWN);
        }
        if (!isDay(from) || !isDay(to) || from > to) {
            return lost(OUTSIDE);
        }
        return let.owedOver(from, to);
    }

    public int weight(int floor, int w) {
        if (!isFloor(floor)) {
            return UNKNOWN;
        }
        if (w < 1 || w > 100) {
            return OUTSIDE;
        }
        int before = land.weights[floor];
        land.weights[floor] = w;
        return before;
    }

    // ---- 3 acts

    public int say(int sign) {
        return isSign(sign) ? acts.addSign(sign) : OUTSIDE;
    }

    public int wipe() {
        int before = acts.length;
        acts.length = 0;
        return before;
    }

    public int fault() {
        return acts.faultPlace();
    }

    public int act(int kind, int day) {
        if (!isKind(kind)) {
            return UNKNOWN;
        }
        if (!isDay(day)) {
            return OUTSIDE;
        }
        if (acts.count == MOST_ACTS) {
            return FULL;
        }
        return acts.faultPlace() == NONE ? acts.pass(kind, day) : NO;
    }

    public int right(int holding, int kind) {
        Holding asked = land.find(holding);
        Act act = acts.inForce(kind, land.today);
        if (asked == null || act == null || !land.isInForce(asked)) {
            return refusalOfRight(asked, kind);
        }
        return reading.isSo(act.text, land, asked, land.today, NONE) ? 1 : 0;
    }

    public int decisive(int holding, int kind) {
        Holding asked = land.find(holding);
        Act act = acts.inForce(kind, land.today);
        if (asked == null || act == null || !land.isInForce(asked)) {
            return refusalOfRight(asked, kind);
        }
        boolean plain = reading.isSo(act.text, land, asked, land.today, NONE);
        int comparisons = reading.comparisons;
        int bits = 0;
        for (int turned = 0; turned < comparisons; turned++) {
            if (reading.isSo(act.text, land, asked, land.today, turned) != plain) {
                bits |= 1 << turned;
            }
        }
        return bits;
    }

    private int refusalOfRight(Holding asked, int kind) {
        if (asked == null || !isKind(kind)) {
            return UNKNOWN;
        }
        return land.isInForce(asked) ? NONE : STATE;
    }

    private boolean hasRight(Holding asked, int kind, int day) {
        Act act = acts.inForce(kind, day);
        return act != null && asked.isInForce(day) && reading.isSo(act.text, land, asked, day, NONE);
    }

    public int fact(int holding, int sign) {
        Holding asked = land.find(holding);
        if (asked == null) {
            return UNKNOWN;
        }
        if (!isFact(sign)) {
            return OUTSIDE;
        }
        return land.isInForce(asked) ? land.measure(asked, sign, land.today) : STATE;
    }

    public int first(int holding, int kind) {
        Holding asked = land.find(holding);
        if (asked == null || !isKind(kind)) {
            return UNKNOWN;
        }
        int last = Math.min(END, land.today + 999);
        for (int day = land.today; day <= last; day++) {
            if (hasRight(asked, kind, day)) {
                return day;
            }
        }
        return NONE;
    }

    // ---- 4 notices

    public int notice(int holding, int kind) {
        Holding giver = land.findLease(holding);
        if (giver == null) {
            return UNKNOWN;
        }
        if (kind != LONGER && kind != BUY) {
            return OUTSIDE;
        }
        if (!land.isInForce(giver)) {
            return STATE;
        }
        if (notices.count == MOST_NOTICES) {
            return FULL;
        }
        int lack = hasRight(giver, kind, land.today) ? notices.lackOf(giver, kind, land.today) : 1;
        return lack == 0 ? notices.add(giver, kind, land.today) : LACK - lack;
    }

    public int answer(int notice, boolean yes) {
        return settle(notice, OPEN, yes ? AGREED : REFUSED);
    }

    public int withdraw(int notice) {
        Notice drawn = notices.find(notice);
        if (drawn == null) {
            return UNKNOWN;
        }
        if (!drawn.isAlive(land.today)) {
            return STATE;
        }
        drawn.standing = WITHDRAWN;
        drawn.withdrawn = land.today;
        return 1;
    }

    public int tribunal(int notice, boolean yes) {
        return settle(notice, REFUSED, yes ? AGREED : BEATEN);
    }

    private int settle(int notice, int needed, int then) {
        Notice settled = notices.find(notice);
        if (settled == null) {
            return UNKNOWN;
        }
        if (settled.standingOn(land.today) != needed) {
            return STATE;
        }
        settled.standing = then;
        return 1;
    }

    public int status(int notice) {
        Notice asked = notices.find(notice);
        return asked == null ? UNKNOWN : asked.standingOn(land.today);
    }

    public int carry(int notice) {
        Notice done = notices.find(notice);
        if (done == null) {
            return UNKNOWN;
        }
        if (done.standingOn(land.today) != AGREED || !land.isInForce(done.giver)) {
            return STATE;
        }
        if (done.kind == LONGER) {
            if (!land.canLengthen(done.giver)) {
                return NO;
            }
            land.lengthen(done.giver);
        } else {
            if (!land.canBuyOut(done.giver)) {
                return NO;
            }
            land.buyOut(done.giver);
        }
        done.standing = DONE;
        return 1;
    }

    public int stay(int holding) {
        Holding stays = land.find(holding);
        if (stays == null || stays.out == null) {
            return UNKNOWN;
        }
        if (stays.way != STANDS || land.today > stays.to) {
            return STATE;
        }
        int until = stays.out.until();
        if (!hasRight(stays, STAY, stays.to - 1) || land.isInTheWay(stays, stays.to, until)) {
            return NO;
        }
        int more = until - stays.to;
        stays.to = until;
        return more;
    }

    // ---- 5 worths

    public int value(int floor, int v) {
        if (!isFloor(floor)) {
            return UNKNOWN;
        }
        if (v < 0 || v > 1000000) {
            return OUTSIDE;
        }
        int before = market.values[floor];
        market.values[floor] = v;
        return before;
    }

    public int point(int years, int t) {
        if (years < 1 || years > FAR_YEARS || !isPartOfWhole(t) || years <= market.lastYears()) {
            return OUTSIDE;
        }
        return market.addPoint(years, t);
    }

    public int blank() {
        int before = market.count;
        market.count = 0;
        return before;
    }

    public int table(int years) {
        return isYears(years) ? market.tableAt(years) : OUTSIDE;
    }

    public int worth(int holding) {
        Holding asked = land.find(holding);
        if (asked == null) {
            return UNKNOWN;
        }
        return land.isInForce(asked) ? (int) market.worthNow(asked, land.today) : STATE;
    }

    public int sale(int years, int t) {
        return isYears(years) && isPartOfWhole(t) ? sales.add(years, t) : OUTSIDE;
    }

    public long learned(int years, int without, int part) {
        if (without < -1 || without >= sales.count) {
            return lost(UNKNOWN);
        }
        if (!isYears(years) || part != 0 && part != 1) {
            return lost(OUTSIDE);
        }
        if (!sales.learn(without)) {
            return lost(STATE);
        }
        return sales.lowest(sales.upperAt(years), part);
    }

    public long doubt(int part) {
        if (part != 0 && part != 1) {
            return lost(OUTSIDE);
        }
        if (!sales.learn(NONE)) {
            return lost(STATE);
        }
        return sales.lowest(sales.farthestOff(), part);
    }

    public int set(int which, int v) {
        if (v < 0 || which != 0 && which != 1 || v > (which == 0 ? 500 : 100)) {
            return OUTSIDE;
        }
        int before = which == 0 ? market.purchase : market.defer;
        if (which == 0) {
            market.purchase = v;
        } else {
            market.defer = v;
        }
        return before;
    }

    public long price(int holding, int what) {
        Holding asked = land.findLease(holding);
        if (asked == null) {
            return lost(UNKNOWN);
        }
        if (what < 0 || what > 3) {
            return lost(OUTSIDE);
        }
        if (!land.isInForce(asked)) {
            return lost(STATE);
        }
        market.appraise(asked, land.today);
        switch (what) {
            case 0: return market.losses + market.marriage;
            case 1: return market.gain;
            case 2: return market.marriage;
            default: return market.losses;
        }
    }

    public long share(int holding, int i) {
        Holding asked = land.findLease(holding);
        if (asked == null) {
            return lost(UNKNOWN);
        }
        if (!land.isInForce(asked)) {
            return lost(STATE);
        }
        if (i < 0 || i >= asked.depth()) {
            return lost(NONE);
        }
        market.appraise(asked, land.today);
        return market.shareOf(asked, i, land.today);
    }

    // ---- 6 joining, breaches

    public int may(int holding, int persons) {
        Holding whole = land.findWhole(holding);
        if (whole == null) {
            return UNKNOWN;
        }
        if (!isPersons(persons)) {
            return OUTSIDE;
        }
        countJoined(whole);
        return mayBuy(whole, persons) ? 1 : 0;
    }

    public int more(int holding, int persons) {
        Holding whole = land.findWhole(holding);
        if (whole == null) {
            return UNKNOWN;
        }
        if (!isPersons(persons)) {
            return OUTSIDE;
        }
        countJoined(whole);
        int best = NONE;
        int fewest = PERSONS + 1;
        for (int further = 0; further < 1 << PERSONS; further++) {
            int many = Integer.bitCount(further);
            if (many < fewest && (further & persons) == 0 && mayBuy(whole, persons | further)) {
                best = further;
                fewest = many;
            }
        }
        return best;
    }

    /** How many floors that count each person has: all that joining asks of the leases. */
    private void countJoined(Holding whole) {
        Arrays.fill(joined, 0);
        Act act = acts.inForce(JOIN, land.today);
        for (int floor = 0; floor < FLOORS; floor++) {
            Holding last = whole.hasFloor(floor) ? land.lastOf(floor) : null;
            boolean isLease = last != null && last.out != null;
            if (isLease && act != null && reading.isSo(act.text, land, last, land.today, NONE)) {
                joined[last.person]++;
            }
        }
    }

    private boolean mayBuy(Holding whole, int persons) {
        int all = 0;
        int willing = 0;
        for (int person = 0; person < PERSONS; person++) {
            all += joined[person];
            willing += (persons >> person & 1) == 1 ? joined[person] : 0;
        }
        int floors = Integer.bitCount(whole.floors);
        return 3 * all >= 2 * floors && 2 * willing >= floors;
    }

    public int breach(int holding, boolean is) {
        Holding told = land.findLease(holding);
        if (told == null) {
            return UNKNOWN;
        }
        if (!land.isInForce(told)) {
            return STATE;
        }
        if (is == (told.breach != NONE)) {
            return 0;
        }
        told.breach = is ? land.today : NONE;
        return 1;
    }

    public int forfeit(int holding) {
        Holding lost = land.findLease(holding);
        if (lost == null) {
            return UNKNOWN;
        }
        if (!land.isInForce(lost)) {
            return STATE;
        }
        if (lost.breach == NONE || land.today - lost.breach < 30) {
            return NO;
        }
        land.close(lost, FORFEITED);
        return land.letFall(lost, lost);
    }

    public int relieve(int holding) {
        Holding lost = land.findLease(holding);
        if (lost == null) {
            return UNKNOWN;
        }
        if (lost.way != FORFEITED || land.today - lost.ended > 180) {
            return STATE;
        }
        return land.canStandAgain(lost) ? land.standAgain(lost) : NO;
    }

    // ---- 7 the register

    public int line(int name, int of, int from, int to) {
        if (!isName(name) || !isName(of) || name == of || !isDay(from) || !isDay(to) || from >= to) {
            return OUTSIDE;
        }
        return register.add(name, of, from, to);
    }

    public int can(int lines) {
        if (lines < 0 || lines > register.all()) {
            return OUTSIDE;
        }
        return register.canBe(lines) ? 1 : 0;
    }

    public int doubted(int i) {
        int place = 0;
        int fewest = register.fewestDoubted();
        for (int lines = 0; lines <= register.all(); lines++) {
            if (Integer.bitCount(lines) == fewest && register.canBe(register.all() & ~lines)) {
                if (place == i) {
                    return lines;
                }
                place++;
            }
        }
        return i == -1 ? place : NONE;
    }

    public int told(int what) {
        if (what >= 10 && what < 10 + FLOORS) {
            return market.values[what - 10];
        }
        if (what >= 30 && what < 30 + FLOORS) {
            return land.weights[what - 30];
        }
        switch (what) {
            case -1: return land.today;
            case 0: return land.count;
            case 1: return acts.length;
            case 2: return acts.count;
            case 3: return notices.count;
            case 4: return market.count;
            case 5: return sales.count;
            case 6: return register.count;
            case 7: return market.purchase;
            case 8: return market.defer;
            default: return OUTSIDE;
        }
    }

    // ---- what numbers and signs are

    private static boolean isDay(int day) {
        return day >= 0 && day <= END;
    }

    private static boolean isYears(int years) {
        return years >= 0 && years <= FAR_YEARS;
    }

    private static boolean isPartOfWhole(int t) {
        return t >= 0 && t <= WHOLE_PART;
    }

    private static boolean isFloor(int floor) {
        return floor >= 0 && floor < FLOORS;
    }

    private static boolean isFloors(int floors) {
        return floors > 0 && floors < 1 << FLOORS;
    }

    private static boolean isPerson(int person) {
        return person >= 0 && person < PERSONS;
    }

    private static boolean isPersons(int persons) {
        return persons >= 0 && persons < 1 << PERSONS;
    }

    private static boolean isName(int name) {
        return name >= 0 && name <= 9;
    }

    private static boolean isKind(int kind) {
        return kind >= 0 && kind < KINDS;
    }

    private static boolean isSign(int sign) {
        return sign >= 33 && sign <= 126;
    }

    private static boolean isDigit(int sign) {
        return sign >= '0' && sign <= '9';
    }

    private static boolean isComparing(int sign) {
        return sign == '<' || sign == '>' || sign == '=';
    }

    private static boolean isFact(int sign) {
        // Without the first test the cast would take numbers beyond the signs for one of them.
        return isSign(sign) && "lthrfos".indexOf((char) sign) >= 0;
    }

    private static long lost(int refusal) {
        return LOST + refusal;
    }

    /** A WHOLE (out of nothing) or a LEASE; they stand in a row in the order of their numbers. */
    private static final class Holding {
        int number;
        Holding next;
        Holding out;
        int floors;
        final int from;
        int to;
        int way;
        int ended;
        int person;
        int since;
        int amount;
        int doubles;
        int breach = NONE;
        /** The forfeit one with which it fell. */
        Holding fellBy;
        boolean falling;

        Holding(Holding out, int floors, int from, int to, int person, int since) {
            this.out = out;
            this.floors = floors;
            this.from = from;
            this.to = to;
            this.person = person;
            this.since = since;
        }

        int until() {
            return way == STANDS ? to : ended;
        }

        boolean isInForce(int day) {
            return from <= day && day < until();
        }

        boolean hasFloor(int floor) {
            return (floors >> floor & 1) == 1;
        }

        boolean hasFloors(int some) {
            return (some & ~floors) == 0;
        }

        boolean meets(int someFloors, int start, int stop) {
            return (floors & someFloors) != 0 && Math.max(from, start) < Math.min(until(), stop);
        }

        boolean holds(int someFloors, int start, int stop) {
            return hasFloors(someFloors) && from <= start && stop <= until();
        }

        int depth() {
            int above = 0;
            for (Holding up = out; up != null; up = up.out) {
                above++;
            }
            return above;
        }

        int rateOn(int day) {
            if (!isInForce(day)) {
                return 0;
            }
            int times = doubles <= 0 ? 0 : Math.min(10, (day - from) / (doubles * YEAR));
            return amount << times;
        }

        long owedOver(int start, int stop) {
            int close = Math.min(stop, until());
            if (doubles == 0) {
                return (long) amount * Math.max(0, close - Math.max(start, from)) / YEAR;
            }
            long sum = 0;
            int stretch = doubles * YEAR;
            for (int times = 0; times <= 10; times++) {
                int begin = from + times * stretch;
                int behind = times == 10 ? close : Math.min(close, begin + stretch);
                long days = Math.max(0, behind - Math.max(start, begin));
                sum += days * (amount << times);
            }
            return sum / YEAR;
        }
    }

    /** All holdings, what day it is, where persons live and what floors weigh. */
    private static final class Land {
        int today;
        Holding first;
        Holding last;
        int count;
        final int[] homes = new int[PERSONS];
        final int[] weights = new int[FLOORS];

        Land() {
            Arrays.fill(homes, NONE);
            Arrays.fill(weights, 1);
        }

        boolean isFull() {
            return count == MOST_HOLDINGS;
        }

        boolean isInForce(Holding asked) {
            return asked.isInForce(today);
        }

        Holding find(int number) {
            for (Holding at = first; at != null; at = at.next) {
                if (at.number == number) {
                    return at;
                }
            }
            return null;
        }

        Holding findLease(int number) {
            Holding found = find(number);
            return found != null && found.out != null ? found : null;
        }

        Holding findWhole(int number) {
            Holding found = find(number);
            return found != null && found.out == null ? found : null;
        }

        int add(Holding fresh) {
            fresh.number = count;
            if (last == null) {
                first = fresh;
            } else {
                last.next = fresh;
            }
            last = fresh;
            count++;
            return fresh.number;
        }

        boolean isOwned(int floors) {
            for (Holding at = first; at != null; at = at.next) {
                if (at.out == null && (at.floors & floors) != 0) {
                    return true;
                }
            }
            return false;
        }

        boolean hasAnother(Holding above, Holding self, int floors, int from, int to) {
            for (Holding at = first; at != null; at = at.next) {
                if (at.out == above && at != self && at.meets(floors, from, to)) {
                    return true;
                }
            }
            return false;
        }

        boolean isInTheWay(Holding self, int from, int to) {
            return hasAnother(self.out, self, self.floors, from, to);
        }

        boolean canGrant(Holding above, int floors, int from, int to) {
            return above.holds(floors, from, to) && !hasAnother(above, null, floors, from, to);
        }

        boolean canPutBetween(Holding above, int floors, int from, int to) {
            if (!above.holds(floors, from, to)) {
                return false;
            }
            for (Holding at = first; at != null; at = at.next) {
                if (at.out == above && at.meets(floors, from, to) && !keepsWithin(at, floors, from, to)) {
                    return false;
                }
            }
            return true;
        }

        boolean keepsWithin(Holding under, int floors, int from, int to) {
            return (under.floors & ~floors) == 0 && Math.max(under.from, today) >= from && under.until() <= to;
        }

        int putBetween(Holding fresh) {
            for (Holding at = first; at != null; at = at.next) {
                if (at.out == fresh.out && at.meets(fresh.floors, fresh.from, fresh.to)) {
                    at.out = fresh;
                }
            }
            return add(fresh);
        }

        boolean canSplit(Holding old, int floors) {
            if (!old.hasFloors(floors) || floors == old.floors) {
                return false;
            }
            for (Holding at = first; at != null; at = at.next) {
                boolean across = (at.floors & floors) != 0 && (at.floors & ~floors) != 0;
                if (at.out == old && at.until() > today && across) {
                    return false;
                }
            }
            return true;
        }

        int split(Holding old, int floors, int person) {
            Holding fresh = new Holding(old.out, floors, old.from, old.to, person, today);
            int all = weightOf(old.floors);
            fresh.amount = all <= 0 ? 0 : old.amount * weightOf(floors) / all;
            fresh.doubles = old.doubles;
            old.amount -= fresh.amount;
            old.floors &= ~floors;
            for (Holding at = first; at != null; at = at.next) {
                if (at.out == old && at.until() > today && fresh.hasFloors(at.floors)) {
                    at.out = fresh;
                }
            }
            return add(fresh);
        }

        int weightOf(int floors) {
            int sum = 0;
            for (int floor = 0; floor < FLOORS; floor++) {
                sum += (floors >> floor & 1) * weights[floor];
            }
            return sum;
        }

        void close(Holding ending, int way) {
            ending.way = way;
            // One that has not begun yet was never in force: it ends as it would begin.
            ending.ended = Math.max(today, ending.from);
        }

        int handOver(Holding ended, Holding above) {
            int moved = 0;
            for (Holding at = first; at != null; at = at.next) {
                if (at.out == ended && at.until() > today) {
                    at.out = above;
                    moved++;
                }
            }
            return moved;
        }

        /** All that hang from the root are found before one ends, as an end would cut off those below. */
        int letFall(Holding root, Holding cause) {
            for (Holding at = first; at != null; at = at.next) {
                at.falling = hangsFrom(at, root);
            }
            int fallen = 0;
            for (Holding at = first; at != null; at = at.next) {
                if (at.falling) {
                    close(at, FELL);
                    at.fellBy = cause;
                    fallen++;
                }
            }
            return fallen;
        }

        boolean hangsFrom(Holding under, Holding root) {
            for (Holding up = under; up != null && up.until() > today; up = up.out) {
                if (up.out == root) {
                    return true;
                }
            }
            return false;
        }

        boolean canStandAgain(Holding lost) {
            Holding above = lost.out;
            boolean fits = above != null && isInForce(above) && above.hasFloors(lost.floors);
            return fits && !isInTheWay(lost, today, lost.to);
        }

        int standAgain(Holding lost) {
            lost.way = STANDS;
            lost.breach = NONE;
            int standing = 1;
            for (Holding at = first; at != null; at = at.next) {
                if (at.fellBy == lost) {
                    at.way = STANDS;
                    at.fellBy = null;
                    standing++;
                }
            }
            return standing;
        }

        boolean canLengthen(Holding lease) {
            int until = lengthened(lease);
            for (Holding up = lease; up.out != null; up = up.out) {
                if (isInTheWay(up, up.to, until)) {
                    return false;
                }
            }
            return true;
        }

        void lengthen(Holding lease) {
            int until = lengthened(lease);
            for (Holding up = lease; up.out != null; up = up.out) {
                up.to = Math.max(up.to, until);
            }
            lease.amount = 0;
        }

        int lengthened(Holding lease) {
            return Math.min(END, lease.to + LONG);
        }

        boolean canBuyOut(Holding lease) {
            for (Holding up = lease.out; up != null; up = up.out) {
                if (up.floors != lease.floors) {
                    return false;
                }
            }
            return true;
        }

        /** All between end first: only then what else is out of one of them can be told from those. */
        void buyOut(Holding lease) {
            close(lease, MERGED);
            Holding whole = lease;
            for (Holding up = lease.out; up != null; up = up.out) {
                if (up.out != null) {
                    close(up, BOUGHT_OUT);
                }
                whole = up;
            }
            whole.person = lease.person;
            whole.since = today;
            handOver(lease, whole);
            for (Holding up = lease.out; up != null && up.out != null; up = up.out) {
                letFall(up, null);
            }
        }

        int countOutOf(Holding above) {
            int many = 0;
            for (Holding at = first; at != null; at = at.next) {
                many += at.out == above ? 1 : 0;
            }
            return many;
        }

        /** What of the floor's chain is right below one; the WHOLE is below none. */
        Holding nextOf(Holding above, int floor) {
            for (Holding at = first; at != null; at = at.next) {
                if (at.out == above && at.hasFloor(floor) && at.isInForce(today)) {
                    return at;
                }
            }
            return null;
        }

        Holding lastOf(int floor) {
            Holding lowest = null;
            Holding at = nextOf(null, floor);
            for (int place = 0; at != null && place < MOST_HOLDINGS; place++) {
                lowest = at;
                at = nextOf(at, floor);
            }
            return lowest;
        }

        int measure(Holding asked, int sign, int day) {
            switch (sign) {
                case 'l': return (asked.until() - day) / YEAR;
                case 't': return (asked.to - asked.from) / YEAR;
                case 'h': return Math.max(0, day - asked.since) / YEAR;
                case 'r': return asked.rateOn(day);
                case 'f': return Integer.bitCount(asked.floors);
                case 'o': return asked.depth();
                default: return livesThere(asked) ? 1 : 0;
            }
        }

        boolean livesThere(Holding asked) {
            int home = homes[asked.person];
            return home != NONE && asked.hasFloor(home);
        }
    }

    /** An act that has passed; each knows the one told ahead of it. */
    private static final class Act {
        final int kind;
        final int day;
        final int[] text;
        final Act earlier;

        Act(int kind, int day, int[] text, Act earlier) {
            this.kind = kind;
            this.day = day;
            this.text = text;
            this.earlier = earlier;
        }
    }

    /** The signs that are being said, and the acts made of such. */
    private static final class Acts {
        final int[] signs = new int[MOST_SIGNS];
        final Grammar grammar = new Grammar();
        int length;
        int count;
        Act last;

        int addSign(int sign) {
            if (length >= MOST_SIGNS) {
                return FULL;
            }
            signs[length] = sign;
            length++;
            return length;
        }

        int faultPlace() {
            grammar.restart();
            for (int at = 0; at < length; at++) {
                if (!grammar.takes(signs[at])) {
                    return at;
                }
            }
            return grammar.isComplete() ? NONE : length;
        }

        int pass(int kind, int day) {
            last = new Act(kind, day, Arrays.copyOf(signs, length), last);
            length = 0;
            count++;
            return count;
        }

        Act inForce(int kind, int day) {
            Act best = null;
            for (Act at = last; at != null; at = at.earlier) {
                if (at.kind == kind && at.day <= day && (best == null || at.day > best.day)) {
                    best = at;
                }
            }
            return best;
        }
    }

    /** Takes a text sign by sign, as long as one could still go on so. */
    private static final class Grammar {
        static final int FACTOR = 0, COMPARING = 1, NUMBER = 2, BEHIND = 3;
        int place;
        int open;
        int digits;

        void restart() {
            place = FACTOR;
            open = 0;
            digits = 0;
        }

        boolean takes(int sign) {
            switch (place) {
                case FACTOR: return takesFactor(sign);
                case COMPARING: return takesComparing(sign);
                default: return isDigit(sign) ? takesDigit() : takesLink(sign);
            }
        }

        boolean takesFactor(int sign) {
            if (isFact(sign)) {
                place = COMPARING;
                return true;
            }
            if (sign == '(') {
                open++;
            }
            return sign == '(' || sign == '!';
        }

        boolean takesComparing(int sign) {
            place = NUMBER;
            digits = 0;
            return isComparing(sign);
        }

        boolean takesDigit() {
            digits++;
            return place == NUMBER && digits <= 5;
        }

        boolean takesLink(int sign) {
            if (!isBehindFactor()) {
                return false;
            }
            if (sign == ')') {
                place = BEHIND;
                open--;
                return open >= 0;
            }
            place = FACTOR;
            return sign == '&' || sign == '|';
        }

        boolean isBehindFactor() {
            return place == BEHIND || place == NUMBER && digits > 0;
        }

        boolean isComplete() {
            return open == 0 && isBehindFactor();
        }
    }

    /** Tells whether a text is so. For each depth of brackets it keeps one bit of each of three masks. */
    private static final class Reading {
        /** A term ahead of the one being read was so. */
        long any;
        /** All factors of the term being read were so. */
        long all;
        /** The next factor is turned. */
        long not;
        int depth;
        int comparisons;
        int left;
        int comparing;
        int number;

        boolean isSo(int[] text, Land land, Holding asked, int day, int turned) {
            restart();
            for (int at = 0; at < text.length; at++) {
                int sign = text[at];
                if (isFact(sign)) {
                    left = land.measure(asked, sign, day);
                } else if (isDigit(sign)) {
                    number = number * 10 + sign - '0';
                    if (at + 1 == text.length || !isDigit(text[at + 1])) {
                        takeFactor(compares() != (comparisons == turned));
                        comparisons++;
                    }
                } else {
                    takeSign(sign);
                }
            }
            return isSoHere();
        }

        void restart() {
            depth = 0;
            comparisons = 0;
            openText();
        }

        void openText() {
            long bit = 1L << depth;
            any &= ~bit;
            all |= bit;
            not &= ~bit;
        }

        void takeSign(int sign) {
            long bit = 1L << depth;
            if (isComparing(sign)) {
                comparing = sign;
                number = 0;
            } else if (sign == '!') {
                not ^= bit;
            } else if (sign == '|') {
                any |= all & bit;
                all |= bit;
            } else if (sign == '(') {
                depth++;
                openText();
            } else if (sign == ')') {
                boolean inside = isSoHere();
                depth--;
                takeFactor(inside);
            }
        }

        void takeFactor(boolean so) {
            long bit = 1L << depth;
            if (so == ((not & bit) != 0)) {
                all &= ~bit;
            }
            not &= ~bit;
        }

        boolean isSoHere() {
            return ((any | all) >> depth & 1) == 1;
        }

        boolean compares() {
            switch (comparing) {
                case '<': return left < number;
                case '>': return left > number;
                default: return left == number;
            }
        }
    }

    /** A lease's notice; they stand in a row in the order of their numbers. */
    private static final class Notice {
        final int number;
        final Holding giver;
        final int kind;
        final int day;
        int standing = OPEN;
        int withdrawn;
        Notice next;

        Notice(int number, Holding giver, int kind, int day) {
            this.number = number;
            this.giver = giver;
            this.kind = kind;
            this.day = day;
        }

        int standingOn(int today) {
            return standing == OPEN && today - day >= 60 ? AGREED : standing;
        }

        boolean isAlive(int today) {
            int now = standingOn(today);
            return now == OPEN || now == REFUSED || now == AGREED;
        }
    }

    private static final class Notices {
        Notice first;
        Notice last;
        int count;

        Notice find(int number) {
            for (Notice at = first; at != null; at = at.next) {
                if (at.number == number) {
                    return at;
                }
            }
            return null;
        }

        int add(Holding giver, int kind, int day) {
            Notice fresh = new Notice(count, giver, kind, day);
            if (last == null) {
                first = fresh;
            } else {
                last.next = fresh;
            }
            last = fresh;
            count++;
            return fresh.number;
        }

        /** The lack 2 or 3 of a lease that has the right; 0: none. */
        int lackOf(Holding giver, int kind, int today) {
            int lack = 0;
            for (Notice at = first; at != null; at = at.next) {
                boolean same = at.giver == giver && at.kind == kind;
                if (same && at.isAlive(today)) {
                    return 2;
                }
                if (same && at.standing == WITHDRAWN && today - at.withdrawn < YEAR) {
                    lack = 3;
                }
            }
            return lack;
        }
    }

    /** What floors and terms are worth, and what landlords lose by a longer one. */
    private static final class Market {
        final int[] values = new int[FLOORS];
        final int[] years = new int[MOST_POINTS];
        final int[] parts = new int[MOST_POINTS];
        int count;
        int purchase = 100;
        int defer = 50;
        /** Of the lease that was appraised last; deferred is what the WHOLE loses beside its rent. */
        long gain;
        long deferred;
        long losses;
        long marriage;

        int lastYears() {
            return count == 0 ? 0 : years[count - 1];
        }

        int addPoint(int year, int t) {
            if (count >= MOST_POINTS) {
                return FULL;
            }
            years[count] = year;
            parts[count] = t;
            count++;
            return count;
        }

        int tableAt(int year) {
            if (count == 0) {
                return WHOLE_PART;
            }
            int nearYear = 0;
            int nearPart = 0;
            for (int i = 0; i < count; i++) {
                int wide = years[i] - nearYear;
                if (year <= years[i] && wide > 0) {
                    return (nearPart * (years[i] - year) + parts[i] * (year - nearYear)) / wide;
                }
                nearYear = years[i];
                nearPart = parts[i];
            }
            return nearPart;
        }

        long valuesOf(int floors) {
            long sum = 0;
            for (int floor = 0; floor < FLOORS; floor++) {
                sum += (floors >> floor & 1) * values[floor];
            }
            return sum;
        }

        long worthWith(int floors, int year) {
            return valuesOf(floors) * tableAt(year) / WHOLE_PART;
        }

        int yearsLeft(Holding asked, int today) {
            return (asked.until() - today) / YEAR;
        }

        long worthNow(Holding asked, int today) {
            return worthWith(asked.floors, yearsLeft(asked, today));
        }

        /** Finds what a longer term of a lease brings and costs. */
        void appraise(Holding lease, int today) {
            long now = worthNow(lease, today);
            gain = worthWith(lease.floors, yearsLeft(lease, today) + 90) - now;
            deferred = (valuesOf(lease.floors) - now) * defer / 100;
            losses = 0;
            for (Holding payer = lease; payer.out != null; payer = payer.out) {
                losses += lossAbove(payer, today);
            }
            marriage = Math.max(0, (gain - losses) / 2);
        }

        /** What the holding loses that gets this one's rent. */
        long lossAbove(Holding payer, int today) {
            long loss = (long) payer.rateOn(today) * purchase / 10;
            boolean toWhole = payer.out != null && payer.out.out == null;
            return toWhole ? loss + deferred : loss;
        }

        /** The WHOLE has what the leases' shares leave of the price: so no cut part of marriage is lost. */
        long shareOf(Holding lease, int i, int today) {
            long left = losses + marriage;
            int place = 0;
            for (Holding payer = lease; payer.out != null && payer.out.out != null; payer = payer.out) {
                long loss = lossAbove(payer, today);
                long mine = losses <= 0 ? loss : loss + marriage * loss / losses;
                if (place == i) {
                    return mine;
                }
                left -= mine;
                place++;
            }
            return left;
        }
    }

    /** Sales and the line through them with the least squares. */
    private static final class Sales {
        final int[] years = new int[MOST_SALES];
        final int[] parts = new int[MOST_SALES];
        int count;
        long many;
        long sumYears;
        long sumParts;
        long spread;
        long slope;

        int add(int year, int t) {
            if (count >= MOST_SALES) {
                return FULL;
            }
            years[count] = year;
            parts[count] = t;
            count++;
            return count;
        }

        /** Whether there is a line; its slope is then slope by spread, its middle sums by many. */
        boolean learn(int without) {
            many = 0;
            sumYears = 0;
            sumParts = 0;
            long squares = 0;
            long products = 0;
            for (int i = 0; i < count; i++) {
                if (i != without) {
                    many++;
                    sumYears += years[i];
                    sumParts += parts[i];
                    squares += (long) years[i] * years[i];
                    products += (long) years[i] * parts[i];
                }
            }
            spread = many * squares - sumYears * sumYears;
            slope = many * products - sumYears * sumParts;
            return spread != 0;
        }

        long lower() {
            return many * spread;
        }

        long upperAt(int year) {
            return sumParts * spread + slope * (many * year - sumYears);
        }

        long farthestOff() {
            long most = 0;
            for (int i = 0; i < count; i++) {
                most = Math.max(most, Math.abs(parts[i] * lower() - upperAt(years[i])));
            }
            return most;
        }

        long lowest(long upper, int part) {
            long common = commonDivisor(Math.abs(upper), lower());
            if (common == 0) {
                return 0;
            }
            return (part == 0 ? upper : lower()) / common;
        }

        long commonDivisor(long one, long other) {
            long great = one;
            long small = other;
            for (int step = 0; small != 0 && step < 1000; step++) {
                long rest = great % small;
                great = small;
                small = rest;
            }
            return great;
        }
    }

    /** Lines of a register, and sets of them as bits. */
    private static final class Register {
        final int[] names = new int[MOST_LINES];
        final int[] ofs = new int[MOST_LINES];
        final int[] froms = new int[MOST_LINES];
        final int[] tos = new int[MOST_LINES];
        /** Of each line those with which it can not be. */
        final int[] clashes = new int[MOST_LINES];
        /** Of each line those of the name that it is out of. */
        final int[] above = new int[MOST_LINES];
        int count;
        int fewest = NONE;

        int add(int name, int of, int from, int to) {
            if (count >= MOST_LINES) {
                return FULL;
            }
            int fresh = count;
            names[fresh] = name;
            ofs[fresh] = of;
            froms[fresh] = from;
            tos[fresh] = to;
            count++;
            fewest = NONE;
            for (int other = 0; other < fresh; other++) {
                relate(fresh, other);
                relate(other, fresh);
            }
            return fresh;
        }

        void relate(int under, int other) {
            boolean isAbove = ofs[under] == names[other];
            boolean within = froms[other] <= froms[under] && tos[under] <= tos[other];
            if (isAbove) {
                above[under] |= 1 << other;
            }
            if (names[under] == names[other] || isAbove && !within) {
                clashes[under] |= 1 << other;
                clashes[other] |= 1 << under;
            }
        }

        int all() {
            return (1 << count) - 1;
        }

        boolean canBe(int lines) {
            for (int i = 0; i < count; i++) {
                if ((lines >> i & 1) == 1 && (clashes[i] & lines) != 0) {
                    return false;
                }
            }
            return !hasRing(lines);
        }

        /** Lines with none above them go, again and again: what never goes is out of itself, or below such. */
        boolean hasRing(int lines) {
            int rest = lines;
            for (int round = 0; round < count && rest != 0; round++) {
                int kept = 0;
                for (int i = 0; i < count; i++) {
                    if ((rest >> i & 1) == 1 && (above[i] & rest) != 0) {
                        kept |= 1 << i;
                    }
                }
                rest = kept;
            }
            return rest != 0;
        }

        int fewestDoubted() {
            if (fewest != NONE) {
                return fewest;
            }
            int least = count;
            for (int lines = 0; lines <= all(); lines++) {
                int many = count - Integer.bitCount(lines);
                if (many < least && canBe(lines)) {
                    least = many;
                }
            }
            fewest = least;
            return least;
        }
    }
}
