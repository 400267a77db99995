import java.util.Arrays;

/**
 * Money in mourning: houses with cash, bulbs and debts to one another, year by year.
 * The words of its comments are those of the document.
 */
public final class MourningTulips {
    public static final int BAD = -1, NOT = -2, FULL = -3, NONE = -4, NULL = -11, CAST = -12, INDEX = -13, SIZE = -14;

    private static final int HOUSES = 5;
    private static final int BULBS = 7;
    private static final int MOST_CASH = 999;
    private static final int MOST_DEBT = 99;
    private static final int MOST_PRICE = 99;
    private static final int LAST_YEAR = 9999;
    private static final int MOST_YEARS = 40;
    private static final int MOST_FORETOLD = 60;
    private static final int MOST_SELL = 40;
    private static final int MOST_GONE = 8;
    private static final int TAPE = 100;
    private static final int KNOWN = 8;
    private static final int SHEETS = 4;
    private static final int LANES = 4;
    private static final int ITEMS = 24;
    private static final long DRAW_BITS = 0x7fffffffL;
    private static final int FINE = 0;
    private static final Kind[] KINDS = Kind.values();

    private final Polder polder = new Polder();
    private final Past past = new Past();
    private final Polder imagePolder = new Polder();
    private final Past imagePast = new Past();
    private boolean imaged = false;
    /** A polder to try things on, so that what is foretold changes nothing. */
    private final Polder trial = new Polder();
    private final Tape tape = new Tape();
    private final Clearing clearing = new Clearing();
    private final Shares shares = new Shares();
    private final Sheet[] sheets = new Sheet[SHEETS];

    public MourningTulips() {
        for (int s = 0; s < SHEETS; s++) {
            sheets[s] = new Sheet();
        }
    }

    // ---- 1 houses, bulbs

    public int house(int cash) {
        if (cash < 0 || cash > MOST_CASH) {
            return BAD;
        }
        if (polder.houses >= HOUSES) {
            return FULL;
        }
        past.forget();
        return polder.addHouse(cash);
    }

    public int bulb(int kind, int price, int house) {
        if (kind < 0 || kind >= KINDS.length || price < 1 || price > MOST_PRICE || !polder.hasHouse(house)) {
            return BAD;
        }
        if (polder.bulbs >= BULBS) {
            return FULL;
        }
        past.forget();
        return polder.addBulb(kind, price, house);
    }

    public int of(int house, int what) {
        if (!polder.hasHouse(house)) {
            return BAD;
        }
        switch (what) {
            case 0: return polder.cash[house];
            case 1: return polder.wealth(house);
            case 2: return polder.burden(house);
            case 3: return polder.claims(house);
            case 4: return polder.holdings(house);
            case 5: return has(polder.failing(), house) ? 1 : 0;
            default: return BAD;
        }
    }

    public int at(int bulb, int what) {
        if (!polder.hasBulb(bulb)) {
            return BAD;
        }
        switch (what) {
            case 0: return polder.kinds[bulb];
            case 1: return polder.prices[bulb];
            case 2: return polder.holders[bulb];
            case 3: return polder.priceBehind(bulb, 1);
            default: return BAD;
        }
    }

    public int owes(int house, int other) {
        if (!polder.hasPair(house, other)) {
            return BAD;
        }
        return polder.debt(house, other);
    }

    public int type(int letter) {
        if (letter < ' ' || letter > '~') {
            return BAD;
        }
        if (tape.length >= TAPE) {
            return FULL;
        }
        return tape.add(letter);
    }

    public int read() {
        int answer = tape.tell(trial);
        if (answer >= 0) {
            trial.draw = polder.draw;
            polder.take(trial);
            past.forget();
        }
        return answer;
    }

    public int count(int what) {
        switch (what) {
            case 0: return polder.houses;
            case 1: return polder.bulbs;
            case 2: return polder.year;
            case 3: return polder.failing();
            case 4: return sum(polder.cash, polder.houses);
            case 5: return sum(polder.prices, polder.bulbs);
            case 6: return sum(polder.debts, polder.debts.length);
            case 7: return past.known;
            default: return BAD;
        }
    }

    // ---- what is done

    public int years(int n) {
        return pass(n, false);
    }

    public int sell(int bulb, int house) {
        if (!polder.hasBulb(bulb) || !polder.hasHouse(house)) {
            return BAD;
        }
        int seller = polder.holders[bulb];
        int sum = polder.prices[bulb];
        if (seller == house || !polder.canHand(house, seller, sum)) {
            return NOT;
        }
        past.keep(polder);
        polder.handCash(house, seller, sum);
        polder.holders[bulb] = house;
        return sum;
    }

    public int lend(int house, int other, int n) {
        if (!polder.hasPair(house, other) || n < 1 || n > MOST_DEBT) {
            return BAD;
        }
        if (polder.debt(other, house) + n > MOST_DEBT || !polder.canHand(house, other, n)) {
            return NOT;
        }
        past.keep(polder);
        polder.handCash(house, other, n);
        return polder.changeDebt(other, house, n);
    }

    public int pay(int house, int other, int n) {
        if (!polder.hasPair(house, other) || n < 1 || n > MOST_DEBT) {
            return BAD;
        }
        if (polder.debt(house, other) < n || !polder.canHand(house, other, n)) {
            return NOT;
        }
        past.keep(polder);
        polder.handCash(house, other, n);
        return polder.changeDebt(house, other, -n);
    }

    public int drift(int n) {
        return pass(n, true);
    }

    public int undo() {
        if (past.known == 0) {
            return NONE;
        }
        past.giveBack(polder);
        return past.known;
    }

    public int seed(int v) {
        if (v < 0) {
            return BAD;
        }
        int old = polder.draw;
        polder.draw = v;
        return old;
    }

    // ---- 2 foretold

    public int price(int bulb, int n) {
        if (!polder.hasBulb(bulb) || !isForetold(n)) {
            return BAD;
        }
        return polder.priceBehind(bulb, n);
    }

    public int then(int n) {
        if (!isForetold(n)) {
            return BAD;
        }
        foretell(n);
        return trial.failing();
    }

    public int goods(int house, int n) {
        if (!polder.hasHouse(house) || !isForetold(n)) {
            return BAD;
        }
        foretell(n);
        return trial.wealth(house);
    }

    public int falls(int house) {
        if (!polder.hasHouse(house)) {
            return BAD;
        }
        trial.take(polder);
        for (int n = 0; n <= MOST_FORETOLD; n++) {
            if (has(trial.failing(), house)) {
                return n;
            }
            trial.passYear();
        }
        return NONE;
    }

    public int alone() {
        return polder.failingAlone();
    }

    public int sells(int bulb, int what) {
        if (!polder.hasBulb(bulb) || what < 0 || what > 1) {
            return BAD;
        }
        Kind kind = KINDS[polder.kinds[bulb]];
        int price = polder.prices[bulb];
        int greatest = price;
        int when = 0;
        for (int n = 1; n <= MOST_SELL; n++) {
            price = kind.next(price, polder.year + n - 1);
            if (price > greatest) {
                greatest = price;
                when = n;
            }
        }
        return what == 0 ? when : greatest;
    }

    /**
     * Nobody fails just when nobody fails alone, so no gift to one house helps
     * while another fails alone; else what the house itself lacks is the least.
     */
    public int gift(int house) {
        if (!polder.hasHouse(house)) {
            return BAD;
        }
        int others = polder.failingAlone() & ~(1 << house);
        if (others != 0) {
            return NONE;
        }
        return Math.max(0, polder.burden(house) - polder.wealth(house) - polder.claims(house));
    }

    public int forgive(int what) {
        if (what < 0 || what > 1) {
            return BAD;
        }
        int best = NONE;
        int fewest = NONE;
        for (int from = 0; from < polder.houses; from++) {
            for (int to = 0; to < polder.houses; to++) {
                if (polder.debt(from, to) == 0) {
                    continue;
                }
                int failing = failingWithout(from, to);
                if (best == NONE || failing < fewest) {
                    best = 10 * from + to;
                    fewest = failing;
                }
            }
        }
        return what == 0 ? best : fewest;
    }

    public int settle(int what) {
        switch (what) {
            case 0: return clearing.fewestPayments(polder);
            case 1: return clearing.leastPaid(polder);
            case 2: return clearing.ring(polder);
            default: return BAD;
        }
    }

    public int easter(int house, int c, int what) {
        if (!polder.hasHouse(house) || c < 0 || c > 10 || what < 0 || what > 1) {
            return BAD;
        }
        int below = 1;
        for (int b = 0; b < polder.bulbs; b++) {
            below *= 10;
        }
        int above = badEasters(house, c);
        int common = commonDivisor(below, above);
        return (what == 0 ? above : below) / Math.max(1, common);
    }

    public int image() {
        imagePolder.take(polder);
        imagePast.take(past);
        imaged = true;
        return 1;
    }

    public int restore() {
        if (!imaged) {
            return NONE;
        }
        polder.take(imagePolder);
        past.take(imagePast);
        return 1;
    }

    // ---- 3 sheets

    public int whose(int house, int sheet, int lane, int i) {
        if (house < -1 || house >= polder.houses || !isSheet(sheet) || !isLane(lane)) {
            return BAD;
        }
        int fault = sheets[sheet].faultAt(lane, i, polder.houses);
        if (fault != FINE) {
            return fault;
        }
        shares.search(polder, sheets[sheet], i, house);
        return house < 0 ? shares.ways : shares.always;
    }

    public int gone(int bulb, int sheet, int lane, int i, int n, int what) {
        if (!polder.hasBulb(bulb) || !isSheet(sheet) || !isLane(lane) || n < 1 || n > MOST_GONE
                || what < 0 || what > 2) {
            return BAD;
        }
        int fault = sheets[sheet].faultAt(lane, i, n);
        if (fault != FINE) {
            return fault;
        }
        if (what == 0) {
            return kindsGone(polder.prices[bulb], sheets[sheet], i, n);
        }
        return pricesGone(KINDS[polder.kinds[bulb]], sheets[sheet], i, n, what == 2);
    }

    public int film(int bulb, int n, int sheet, int lane, int i) {
        if (!polder.hasBulb(bulb) || n < 1 || n > ITEMS || !isSheet(sheet) || !isLane(lane)) {
            return BAD;
        }
        int fault = sheets[sheet].faultAt(lane, i, n);
        if (fault != FINE) {
            return fault;
        }
        Kind kind = KINDS[polder.kinds[bulb]];
        int price = polder.prices[bulb];
        for (int k = 0; k < n; k++) {
            price = kind.next(price, polder.year + k);
            sheets[sheet].put(i + k, price);
        }
        return n;
    }

    public int sheet(int sheet, int lane, int n) {
        if (!isSheet(sheet) || !isLane(lane) || n > ITEMS) {
            return BAD;
        }
        if (n < 0) {
            return SIZE;
        }
        sheets[sheet].hold(lane, n);
        return n;
    }

    public int drop(int sheet) {
        if (!isSheet(sheet)) {
            return BAD;
        }
        if (!sheets[sheet].held) {
            return NULL;
        }
        sheets[sheet].held = false;
        return sheets[sheet].length;
    }

    public int item(int sheet, int lane, int i, long v) {
        if (!isSheet(sheet) || !isLane(lane)) {
            return BAD;
        }
        int fault = sheets[sheet].faultAt(lane, i, 1);
        if (fault != FINE) {
            return fault;
        }
        sheets[sheet].put(i, v);
        return 1;
    }

    public int copy(int from, int i, int to, int j, int n) {
        if (!isSheet(from) || !isSheet(to)) {
            return BAD;
        }
        Sheet source = sheets[from];
        Sheet target = sheets[to];
        if (!source.held || !target.held) {
            return NULL;
        }
        if (source.lane != target.lane) {
            return CAST;
        }
        if (!source.spans(i, n) || !target.spans(j, n)) {
            return INDEX;
        }
        System.arraycopy(source.items, i, target.items, j, n);
        return n;
    }

    // ---- what the calls share

    private static boolean has(int set, int member) {
        return (set >> member & 1) == 1;
    }

    private static int sum(int[] row, int n) {
        int sum = 0;
        for (int k = 0; k < n && k < row.length; k++) {
            sum += row[k];
        }
        return sum;
    }

    private static int half(int price) {
        return Math.max(1, price / 2);
    }

    private static int commonDivisor(int a, int b) {
        // Euclid's rests at least halve in two steps, so that 64 are enough for any ints.
        for (int step = 0; step < 64 && b != 0; step++) {
            int rest = a % b;
            a = b;
            b = rest;
        }
        return a;
    }

    private static boolean isForetold(int n) {
        return n >= 0 && n <= MOST_FORETOLD;
    }

    private static boolean isSheet(int sheet) {
        return sheet >= 0 && sheet < SHEETS;
    }

    private static boolean isLane(int lane) {
        return lane >= 0 && lane < LANES;
    }

    private int pass(int n, boolean drifting) {
        if (n < 1 || n > MOST_YEARS) {
            return BAD;
        }
        if (polder.year + n > LAST_YEAR) {
            return FULL;
        }
        for (int k = 0; k < n; k++) {
            past.keep(polder);
            if (drifting) {
                polder.drawCash();
            }
            polder.passYear();
        }
        return polder.failing();
    }

    private void foretell(int n) {
        trial.take(polder);
        for (int k = 0; k < n; k++) {
            trial.passYear();
        }
    }

    private int failingWithout(int from, int to) {
        trial.take(polder);
        trial.changeDebt(from, to, -trial.debt(from, to));
        return Integer.bitCount(trial.failing());
    }

    /** In how many of 10 to the number of bulbs Easters the house fails. */
    private int badEasters(int house, int c) {
        trial.take(polder);
        int bad = 0;
        for (int halved = 0; halved < 1 << polder.bulbs; halved++) {
            int chances = 1;
            for (int b = 0; b < polder.bulbs; b++) {
                boolean half = has(halved, b);
                chances *= half ? c : 10 - c;
                trial.prices[b] = half ? half(polder.prices[b]) : polder.prices[b];
            }
            if (chances > 0 && has(trial.failing(), house)) {
                bad += chances;
            }
        }
        return bad;
    }

    private int kindsGone(int price, Sheet row, int i, int n) {
        int set = 0;
        for (int k = 0; k < KINDS.length; k++) {
            if (goesSo(KINDS[k], price, row, i, n)) {
                set |= 1 << k;
            }
        }
        return set;
    }

    private int pricesGone(Kind kind, Sheet row, int i, int n, boolean least) {
        int many = 0;
        for (int price = 1; price <= MOST_PRICE; price++) {
            if (goesSo(kind, price, row, i, n)) {
                if (least) {
                    return price;
                }
                many++;
            }
        }
        return least ? NONE : many;
    }

    private boolean goesSo(Kind kind, int price, Sheet row, int i, int n) {
        int worth = price;
        for (int k = 0; k < n; k++) {
            worth = kind.next(worth, polder.year + k);
            if (worth != row.items[i + k]) {
                return false;
            }
        }
        return true;
    }

    // ---- the classes inside

    /** How a price goes, and the letter that a polder's text has for it. */
    private enum Kind {
        STEADY('s'),
        RISING('r') {
            int next(int price, int year) {
                return Math.min(MOST_PRICE, price + price / 10 + 1);
            }
        },
        BROKEN('b') {
            int next(int price, int year) {
                return year % 3 == 0 ? half(price) : price;
            }
        },
        MANIA('m') {
            int next(int price, int year) {
                int twice = RISING.next(RISING.next(price, year), year);
                return twice >= 90 ? 1 : twice;
            }
        },
        BLACK('k') {
            int next(int price, int year) {
                int broken = BROKEN.next(price, year);
                return year % 2 == 0 ? broken : Math.min(MOST_PRICE, broken + 5);
            }
        };

        private final int letter;

        Kind(int letter) {
            this.letter = letter;
        }

        int next(int price, int year) {
            return price;
        }
    }

    /** All that a year, a sale, a loan or a payment can change, and what it goes by. */
    private static final class Polder {
        private int houses = 0;
        private int bulbs = 0;
        private int year = 0;
        private int draw = 1;
        private final int[] cash = new int[HOUSES];
        /** At HOUSES times who owes, and to whom. */
        private final int[] debts = new int[HOUSES * HOUSES];
        private final int[] kinds = new int[BULBS];
        private final int[] prices = new int[BULBS];
        private final int[] holders = new int[BULBS];
        /** What each house would have left when all is paid; below 0 it fails. */
        private final int[] rest = new int[HOUSES];

        void take(Polder other) {
            houses = other.houses;
            bulbs = other.bulbs;
            year = other.year;
            draw = other.draw;
            System.arraycopy(other.cash, 0, cash, 0, HOUSES);
            System.arraycopy(other.debts, 0, debts, 0, HOUSES * HOUSES);
            System.arraycopy(other.kinds, 0, kinds, 0, BULBS);
            System.arraycopy(other.prices, 0, prices, 0, BULBS);
            System.arraycopy(other.holders, 0, holders, 0, BULBS);
        }

        void clear() {
            houses = 0;
            bulbs = 0;
            year = 0;
            Arrays.fill(debts, 0);
        }

        boolean hasHouse(int house) {
            return house >= 0 && house < houses;
        }

        boolean hasPair(int house, int other) {
            return hasHouse(house) && hasHouse(other) && house != other;
        }

        boolean hasBulb(int bulb) {
            return bulb >= 0 && bulb < bulbs;
        }

        int addHouse(int money) {
            cash[houses] = money;
            houses++;
            return houses - 1;
        }

        int addBulb(int kind, int price, int holder) {
            kinds[bulbs] = kind;
            prices[bulbs] = price;
            holders[bulbs] = holder;
            bulbs++;
            return bulbs - 1;
        }

        int debt(int from, int to) {
            return debts[HOUSES * from + to];
        }

        int changeDebt(int from, int to, int more) {
            debts[HOUSES * from + to] += more;
            return debts[HOUSES * from + to];
        }

        boolean canHand(int from, int to, int sum) {
            return cash[from] >= sum && cash[to] + sum <= MOST_CASH;
        }

        void handCash(int from, int to, int sum) {
            cash[from] -= sum;
            cash[to] += sum;
        }

        int wealth(int house) {
            int wealth = cash[house];
            for (int b = 0; b < bulbs; b++) {
                if (holders[b] == house) {
                    wealth += prices[b];
                }
            }
            return wealth;
        }

        int burden(int house) {
            int burden = 0;
            for (int to = 0; to < houses; to++) {
                burden += debt(house, to);
            }
            return burden;
        }

        int claims(int house) {
            int claims = 0;
            for (int from = 0; from < houses; from++) {
                claims += debt(from, house);
            }
            return claims;
        }

        int holdings(int house) {
            int set = 0;
            for (int b = 0; b < bulbs; b++) {
                if (holders[b] == house) {
                    set |= 1 << b;
                }
            }
            return set;
        }

        int failingAlone() {
            weighAll();
            return lacking();
        }

        int failing() {
            weighAll();
            int failed = 0;
            // Each round but the last has one more that fails, so that there are no more rounds than houses.
            for (int round = 0; round < houses; round++) {
                int fresh = lacking() & ~failed;
                if (fresh == 0) {
                    return failed;
                }
                writeOff(fresh);
                failed |= fresh;
            }
            return failed;
        }

        private void weighAll() {
            for (int h = 0; h < houses; h++) {
                rest[h] = wealth(h) + claims(h) - burden(h);
            }
        }

        private int lacking() {
            int set = 0;
            for (int h = 0; h < houses; h++) {
                if (rest[h] < 0) {
                    set |= 1 << h;
                }
            }
            return set;
        }

        private void writeOff(int failed) {
            for (int from = 0; from < houses; from++) {
                for (int to = 0; has(failed, from) && to < houses; to++) {
                    rest[to] -= debt(from, to);
                }
            }
        }

        int priceBehind(int bulb, int n) {
            Kind kind = KINDS[kinds[bulb]];
            int price = prices[bulb];
            for (int k = 0; k < n; k++) {
                price = kind.next(price, year + k);
            }
            return price;
        }

        void passYear() {
            for (int b = 0; b < bulbs; b++) {
                prices[b] = KINDS[kinds[b]].next(prices[b], year);
            }
            year++;
        }

        void drawCash() {
            draw = (int) (draw * 1103515245L + 12345L & DRAW_BITS);
            if (houses > 0) {
                int lucky = draw / 65536 % houses;
                cash[lucky] = Math.min(MOST_CASH, cash[lucky] + draw / 128 % 9);
            }
        }
    }

    /** The polder as it was ahead of each of the latest that may be undone. */
    private static final class Past {
        private final Polder[] polders = new Polder[KNOWN];
        private int known = 0;
        private int next = 0;

        Past() {
            for (int k = 0; k < KNOWN; k++) {
                polders[k] = new Polder();
            }
        }

        void keep(Polder polder) {
            polders[next].take(polder);
            next = (next + 1) % KNOWN;
            known = Math.min(known + 1, KNOWN);
        }

        void giveBack(Polder polder) {
            next = (next + KNOWN - 1) % KNOWN;
            known--;
            polder.take(polders[next]);
        }

        void forget() {
            known = 0;
        }

        void take(Past other) {
            for (int k = 0; k < KNOWN; k++) {
                polders[k].take(other.polders[k]);
            }
            known = other.known;
            next = other.next;
        }
    }

    /** The tape, and the reading of a polder from it. */
    private static final class Tape {
        private static final int END = -1;
        private static final int FIRST_FAULT = -20;

        private final int[] letters = new int[TAPE];
        private int length = 0;
        private int place = 0;
        private int fault = FINE;

        int add(int letter) {
            letters[length] = letter;
            length++;
            return length;
        }

        /** Fills a polder by what the tape says, and empties the tape: how many houses, or the fault. */
        int tell(Polder told) {
            place = 0;
            fault = FINE;
            told.clear();
            boolean well = tellHouses(told) && tellBulbs(told) && tellEnd(told);
            length = 0;
            return well ? told.houses : fault;
        }

        private boolean tellHouses(Polder told) {
            for (int h = 0; h < HOUSES; h++) {
                int money = number(0);
                if (money < 0) {
                    return false;
                }
                told.addHouse(money);
                if (!tellDebts(told, h)) {
                    return false;
                }
                if (ahead() != ',' || h == HOUSES - 1) {
                    return true;
                }
                place++;
            }
            return true;
        }

        private boolean tellDebts(Polder told, int from) {
            // None is told twice, so that the last of so many pairs is a fault.
            for (int pair = 0; pair < HOUSES && ahead() == '>'; pair++) {
                place++;
                int to = ahead() - '0';
                if (to < 0 || to >= HOUSES || to == from || told.debt(from, to) > 0) {
                    return faultAt(place);
                }
                place++;
                if (ahead() != '=') {
                    return faultAt(place);
                }
                place++;
                int sum = number(1);
                if (sum < 0) {
                    return false;
                }
                told.changeDebt(from, to, sum);
            }
            return true;
        }

        private boolean tellBulbs(Polder told) {
            if (ahead() != ';') {
                return true;
            }
            for (int b = 0; b < BULBS; b++) {
                place++;
                if (!tellBulb(told)) {
                    return false;
                }
                if (ahead() != ',') {
                    return true;
                }
            }
            return true;
        }

        private boolean tellBulb(Polder told) {
            int kind = kindOf(ahead());
            if (kind < 0) {
                return faultAt(place);
            }
            place++;
            int price = number(1);
            if (price < 0) {
                return false;
            }
            int holder = 0;
            if (ahead() == '@') {
                place++;
                holder = ahead() - '0';
                if (!told.hasHouse(holder)) {
                    return faultAt(place);
                }
                place++;
            }
            told.addBulb(kind, price, holder);
            return true;
        }

        private boolean tellEnd(Polder told) {
            if (ahead() != END) {
                return faultAt(place);
            }
            for (int from = 0; from < told.houses; from++) {
                for (int to = told.houses; to < HOUSES; to++) {
                    if (told.debt(from, to) > 0) {
                        return faultAt(length);
                    }
                }
            }
            return true;
        }

        /** A number of one or two digits, or -1 with a fault. */
        private int number(int least) {
            if (!isDigit(ahead())) {
                faultAt(place);
                return -1;
            }
            int first = place;
            int number = letters[place] - '0';
            place++;
            if (place < length && isDigit(letters[place])) {
                number = 10 * number + letters[place] - '0';
                place++;
            }
            if (number < least) {
                faultAt(first);
                return -1;
            }
            return number;
        }

        /** The letter ahead, behind blanks. */
        private int ahead() {
            while (place < length && letters[place] == ' ') {
                place++;
            }
            return place < length ? letters[place] : END;
        }

        private static boolean isDigit(int letter) {
            return letter >= '0' && letter <= '9';
        }

        private static int kindOf(int letter) {
            for (int k = 0; k < KINDS.length; k++) {
                if (KINDS[k].letter == letter) {
                    return k;
                }
            }
            return -1;
        }

        private boolean faultAt(int where) {
            fault = FIRST_FAULT - where;
            return false;
        }
    }

    /** How debts might be settled, and who owes one another round. */
    private static final class Clearing {
        private final int[] nets = new int[HOUSES];
        /** For a set of houses: into how many groups of net 0 it may go, one after another. */
        private final int[] groups = new int[1 << HOUSES];
        private final int[] reached = new int[HOUSES];

        private void findNets(Polder polder) {
            for (int h = 0; h < polder.houses; h++) {
                nets[h] = polder.claims(h) - polder.burden(h);
            }
        }

        /**
         * Houses that pay one another in a group settle it by one payment fewer than they are,
         * if the group's nets are 0 together: the more groups, the fewer payments.
         */
        int fewestPayments(Polder polder) {
            findNets(polder);
            int houses = polder.houses;
            int all = (1 << houses) - 1;
            groups[0] = 0;
            for (int set = 1; set <= all; set++) {
                int most = 0;
                int net = 0;
                for (int h = 0; h < houses; h++) {
                    if (has(set, h)) {
                        most = Math.max(most, groups[set ^ 1 << h]);
                        net += nets[h];
                    }
                }
                groups[set] = net == 0 ? most + 1 : most;
            }
            return houses - groups[all];
        }

        int leastPaid(Polder polder) {
            findNets(polder);
            int paid = 0;
            for (int h = 0; h < polder.houses; h++) {
                paid += Math.max(0, nets[h]);
            }
            return paid;
        }

        int ring(Polder polder) {
            findReached(polder);
            int set = 0;
            for (int h = 0; h < polder.houses; h++) {
                if (has(reached[h], h)) {
                    set |= 1 << h;
                }
            }
            return set;
        }

        private void findReached(Polder polder) {
            for (int from = 0; from < polder.houses; from++) {
                reached[from] = 0;
                for (int to = 0; to < polder.houses; to++) {
                    if (polder.debt(from, to) > 0) {
                        reached[from] |= 1 << to;
                    }
                }
            }
            for (int by = 0; by < polder.houses; by++) {
                for (int from = 0; from < polder.houses; from++) {
                    if (has(reached[from], by)) {
                        reached[from] |= reached[by];
                    }
                }
            }
        }
    }

    /** The ways in which bulbs might be shared among houses, so that each has as much as a row tells. */
    private static final class Shares {
        private final long[] due = new long[HOUSES];
        /** For a set of bulbs: their prices together. */
        private final int[] worth = new int[1 << BULBS];
        private int houses = 0;
        private int told = -1;
        private int ways = 0;
        private int always = 0;

        void search(Polder polder, Sheet row, int i, int house) {
            houses = polder.houses;
            told = house;
            ways = 0;
            int all = (1 << polder.bulbs) - 1;
            always = all;
            System.arraycopy(row.items, i, due, 0, houses);
            for (int set = 1; set <= all; set++) {
                worth[set] = 0;
                for (int b = 0; b < polder.bulbs; b++) {
                    worth[set] += has(set, b) ? polder.prices[b] : 0;
                }
            }
            share(0, all, 0);
            if (ways == 0) {
                always = 0;
            }
        }

        /** A house and those behind it share the free bulbs. */
        private void share(int house, int free, int toldBulbs) {
            if (house >= houses) {
                if (free == 0) {
                    ways++;
                    always &= toldBulbs;
                }
                return;
            }
            for (int part = 0; part <= free; part++) {
                boolean isFree = (part & ~free) == 0;
                if (isFree && worth[part] == due[house]) {
                    share(house + 1, free ^ part, house == told ? part : toldBulbs);
                }
            }
        }
    }

    /** A row of a lane, or nothing; a lane's items are kept as longs that are cut to it. */
    private static final class Sheet {
        private final long[] items = new long[ITEMS];
        private boolean held = false;
        private int lane = 0;
        private int length = 0;

        void hold(int newLane, int n) {
            held = true;
            lane = newLane;
            length = n;
            Arrays.fill(items, 0L);
        }

        boolean spans(int i, int n) {
            return i >= 0 && n >= 0 && i <= length - n;
        }

        int faultAt(int asLane, int i, int n) {
            if (!held) {
                return NULL;
            }
            if (lane != asLane) {
                return CAST;
            }
            return spans(i, n) ? FINE : INDEX;
        }

        void put(int i, long v) {
            items[i] = cut(v);
        }

        private long cut(long v) {
            switch (lane) {
                case 0: return (byte) v;
                case 1: return (short) v;
                case 2: return (int) v;
                default: return v;
            }
        }
    }
}
