import java.io.IOException;
import java.math.BigInteger;
import java.nio.file.Files;
import java.nio.file.Path;
import java.util.ArrayList;
import java.util.List;

/**
 * The document's sentences, quoted one after another, each with what it says at its edges: too small, too large,
 * empty, full, wrapped round, refused. A sentence of the terms or the promises that is quoted nowhere is told, too.
 */
public final class EdgesTest {
    private static final int BAD = -1, NOT = -2, FULL = -3, NONE = -4, NULL = -11, CAST = -12, INDEX = -13, SIZE = -14;
    private static final int LOW = Integer.MIN_VALUE, HIGH = Integer.MAX_VALUE;
    private static final int STEADY = 0, RISING = 1, BROKEN = 2, MANIA = 3, BLACK = 4;
    private static final Path DOCUMENT = Path.of("../shared/DOC.md");
    /** What the document says between its sentences. */
    private static final String[] HEADINGS = {"==== 1", "==== 2", "==== 3", "```text", "Ahead of the calls",
        "the interface says: ---- 1 houses, bulbs.", "the interface says: ---- what is done.",
        "the interface says: ---- 2 foretold.", "the interface says: ---- 3"};

    private static final List<String> QUOTES = new ArrayList<>();
    private static String sentence = "";
    private static int wrong = 0;

    private interface Making {
        void on(MourningTulips x);
    }

    private interface Call {
        int on(MourningTulips x);
    }

    private static void says(String words) {
        sentence = words;
        QUOTES.add(words);
    }

    private static void due(String call, long got, long want) {
        if (got != want) {
            wrong++;
            System.out.println("\"" + sentence + "\": " + call + " answered " + got + ", due is " + want);
        }
    }

    // ---- objects to try the sentences on

    private static void type(MourningTulips x, String text) {
        for (int k = 0; k < text.length(); k++) {
            due("type of " + text, x.type(text.charAt(k)) > 0 ? 1 : 0, 1);
        }
    }

    private static int read(MourningTulips x, String text) {
        type(x, text);
        return x.read();
    }

    private static MourningTulips polder(String text) {
        MourningTulips x = new MourningTulips();
        due("read of " + text, read(x, text) > 0 ? 1 : 0, 1);
        return x;
    }

    private static void houses(MourningTulips x, int... cash) {
        for (int h = 0; h < cash.length; h++) {
            due("house(" + cash[h] + ")", x.house(cash[h]), h);
        }
    }

    private static MourningTulips houses(int... cash) {
        return make(x -> houses(x, cash));
    }

    private static void row(MourningTulips x, int sheet, int lane, long... items) {
        due("sheet", x.sheet(sheet, lane, items.length), items.length);
        for (int k = 0; k < items.length; k++) {
            due("item", x.item(sheet, lane, k, items[k]), 1);
        }
    }

    /** An item of 1 .. 99, as the least price of a STEADY bulb 0 that would be so. */
    private static int itemOf(MourningTulips x, int sheet, int lane, int i) {
        return x.gone(0, sheet, lane, i, 1, 2);
    }

    private static void items(MourningTulips x, int sheet, int lane, int... items) {
        for (int k = 0; k < items.length; k++) {
            due("item " + k + " of sheet " + sheet, itemOf(x, sheet, lane, k), items[k]);
        }
        due("no more items", itemOf(x, sheet, lane, items.length), INDEX);
    }

    /** Something of everything: 5 houses, 7 bulbs, 8 to be undone, an image, three sheets, a tape. */
    private static void standing(MourningTulips x, String tape) {
        due("read", read(x, "12>1=40>2=5,33>2=60,20>0=30>3=9,0>4=50,77>3=8;"
            + "s30,r12@1,b40@2,m9@3,k50@4,m70@1,s5@4"), 5);
        due("years", x.years(9) >= 0 ? 1 : 0, 1);
        due("lend", x.lend(1, 0, 7), 47);
        due("pay", x.pay(4, 3, 2), 6);
        due("sell", x.sell(6, 0), 5);
        x.seed(4711);
        x.image();
        due("drift", x.drift(3) >= 0 ? 1 : 0, 1);
        due("pay", x.pay(0, 1, 3), 44);
        x.seed(99);
        row(x, 0, 2, 11, 12, 13, 14, 15, 16);
        row(x, 1, 0, 21, 22, 23);
        row(x, 3, 3);
        type(x, tape);
    }

    private static void standing(MourningTulips x) {
        standing(x, "3>1=5,4;r");
    }

    private static void lastYear(MourningTulips x) {
        read(x, "9,9>0=3;k50,r1@1");
        for (int k = 0; k < 249; k++) {
            x.years(40);
        }
        due("the year 9999", x.years(39), 0);
    }

    private static void fullTape(MourningTulips x) {
        for (int k = 1; k <= 100; k++) {
            due("type", x.type(k == 50 ? '7' : ' '), k);
        }
    }

    private static MourningTulips make(Making making) {
        MourningTulips x = new MourningTulips();
        making.on(x);
        return x;
    }

    // ---- all that may be seen of an object

    private static void lookAtPolder(MourningTulips x, List<Integer> seen) {
        for (int what = 0; what <= 7; what++) {
            seen.add(x.count(what));
        }
        for (int h = 0; h < 5; h++) {
            for (int what = 0; what <= 5; what++) {
                seen.add(x.of(h, what));
            }
            for (int o = 0; o < 5; o++) {
                seen.add(x.owes(h, o));
            }
        }
        for (int b = 0; b < 7; b++) {
            for (int what = 0; what <= 2; what++) {
                seen.add(x.at(b, what));
            }
        }
        seen.add(x.seed(5));
    }

    private static void lookAtPast(MourningTulips x, List<Integer> seen) {
        for (int left = x.undo(); left >= 0; left = x.undo()) {
            seen.add(left);
            seen.add(x.count(2));
            seen.add(x.count(4));
            seen.add(x.count(5) + 1000 * x.count(6));
            seen.add(x.seed(5));
        }
    }

    private static void lookAtImage(MourningTulips x, List<Integer> seen) {
        seen.add(x.restore());
        for (int what = 0; what <= 7; what++) {
            seen.add(x.count(what));
        }
        seen.add(x.seed(5));
        lookAtPast(x, seen);
    }

    private static void lookAtTape(MourningTulips x, List<Integer> seen) {
        seen.add(x.type('1'));
        seen.add(x.read());
        for (int h = 0; h < 5; h++) {
            seen.add(x.of(h, 0));
            seen.add(x.of(h, 2));
        }
        for (int b = 0; b < 7; b++) {
            seen.add(x.at(b, 1));
        }
    }

    private static void lookAtSheets(MourningTulips x, List<Integer> seen) {
        read(x, "0;s1");
        for (int s = 0; s < 4; s++) {
            for (int lane = 0; lane < 4; lane++) {
                int item = itemOf(x, s, lane, 0);
                seen.add(item);
                for (int i = 1; item != NULL && item != CAST && item != INDEX; i++) {
                    item = itemOf(x, s, lane, i);
                    seen.add(item);
                }
            }
            seen.add(x.drop(s));
        }
    }

    private static List<Integer> look(MourningTulips x, boolean brief) {
        List<Integer> seen = new ArrayList<>();
        lookAtPolder(x, seen);
        lookAtPast(x, seen);
        if (!brief) {
            lookAtImage(x, seen);
            lookAtTape(x, seen);
            lookAtSheets(x, seen);
        }
        return seen;
    }

    private static void alike(String what, MourningTulips x, MourningTulips twin, boolean brief) {
        List<Integer> seen = look(x, brief);
        List<Integer> wanted = look(twin, brief);
        due(what + ": how much is to be seen", seen.size(), wanted.size());
        for (int k = 0; k < seen.size() && k < wanted.size(); k++) {
            due(what + ": what is seen at " + k, seen.get(k), wanted.get(k));
        }
    }

    /** The call's answer is due, and all is as in a twin without it. */
    private static void leaves(Making making, String what, Call call, int want) {
        MourningTulips x = make(making);
        due(what, call.on(x), want);
        alike(what, x, make(making), false);
    }

    private static void leavesStanding(String what, Call call, int want) {
        leaves(EdgesTest::standing, what, call, want);
    }

    private static void leavesNew(String what, Call call, int want) {
        leaves(x -> { }, what, call, want);
    }

    // ---- Terms: answers below 0

    private static void answersBelow0() {
        says("Answers below 0, of several the first that a call names: BAD -1 (a number is not as told, there is no such"
            + " thing), NOT -2 (as told), FULL -3, NONE -4 (as told), CAST -12 (of SHEETS another LANE);");
        due("BAD", MourningTulips.BAD, -1);
        due("NOT", MourningTulips.NOT, -2);
        due("FULL", MourningTulips.FULL, -3);
        due("NONE", MourningTulips.NONE, -4);
        due("CAST", MourningTulips.CAST, -12);
        MourningTulips x = make(EdgesTest::standing);
        due("a bad sixth house", x.house(1000), BAD);
        due("a sixth house", x.house(999), FULL);
        due("a bad eighth bulb", x.bulb(5, 1, 0), BAD);
        due("an eighth bulb", x.bulb(4, 1, 0), FULL);
        due("a bulb to itself, which is not", x.sell(7, 0), BAD);
        due("lent too much, to itself", x.lend(0, 0, 99), BAD);
        due("lent too much", x.lend(3, 0, 99), NOT);
        due("paid what is not owed, to itself", x.pay(0, 0, 99), BAD);
        due("paid what is not owed", x.pay(0, 4, 99), NOT);
        x = make(EdgesTest::fullTape);
        due("a bad letter", x.type(127), BAD);
        due("a letter", x.type(126), FULL);
        x = make(EdgesTest::lastYear);
        due("years(41)", x.years(41), BAD);
        due("years(40)", x.years(40), FULL);
        due("drift(0)", x.drift(0), BAD);
        due("drift(1)", x.drift(1), FULL);
        x = polder("1,2");
        due("forgive(2), nobody owes", x.forgive(2), BAD);
        due("forgive(1), nobody owes", x.forgive(1), NONE);
    }

    private static void machineFinds() {
        says("what the machine finds: NULL -11, INDEX -13, SIZE -14 (NULL, CAST, INDEX, SIZE in this order).");
        due("NULL", MourningTulips.NULL, -11);
        due("INDEX", MourningTulips.INDEX, -13);
        due("SIZE", MourningTulips.SIZE, -14);
        MourningTulips x = make(EdgesTest::standing);
        due("whose: BAD of all", x.whose(5, 2, 0, 99), BAD);
        due("whose: NULL of all", x.whose(0, 2, 0, 99), NULL);
        due("whose: CAST of two", x.whose(0, 0, 1, 99), CAST);
        due("whose: INDEX", x.whose(0, 0, 2, 99), INDEX);
        due("gone: BAD of all", x.gone(0, 2, 0, 99, 9, 0), BAD);
        due("gone: NULL of all", x.gone(0, 2, 0, 99, 8, 0), NULL);
        due("gone: CAST of two", x.gone(0, 0, 1, 99, 8, 0), CAST);
        due("gone: INDEX", x.gone(0, 0, 2, 99, 8, 0), INDEX);
        due("film: BAD of all", x.film(0, 25, 2, 0, 99), BAD);
        due("film: NULL of all", x.film(0, 24, 2, 0, 99), NULL);
        due("film: CAST of two", x.film(0, 24, 0, 1, 99), CAST);
        due("film: INDEX", x.film(0, 24, 0, 2, 99), INDEX);
        due("sheet: BAD of two", x.sheet(4, 0, -1), BAD);
        due("sheet: BAD of two", x.sheet(0, 4, -1), BAD);
        due("sheet: SIZE", x.sheet(0, 0, -1), SIZE);
        due("item: BAD of all", x.item(2, 4, 99, 0), BAD);
        due("item: NULL of all", x.item(2, 0, 99, 0), NULL);
        due("item: CAST of two", x.item(0, 1, 99, 0), CAST);
        due("item: INDEX", x.item(0, 2, 99, 0), INDEX);
        due("copy: BAD of all", x.copy(2, 99, 4, 99, 99), BAD);
        due("copy: NULL of all", x.copy(0, 99, 2, 99, 99), NULL);
        due("copy: NULL of all", x.copy(2, 99, 0, 99, 99), NULL);
        due("copy: CAST of two", x.copy(0, 99, 1, 99, 99), CAST);
        due("copy: INDEX", x.copy(0, 99, 0, 99, 99), INDEX);
    }

    private static void refusedHousesAndBulbs() {
        says("What is refused changes nothing, but as told.");
        leavesStanding("house(-1)", x -> x.house(-1), BAD);
        leavesStanding("house(1000)", x -> x.house(1000), BAD);
        leavesStanding("a sixth house", x -> x.house(0), FULL);
        leavesStanding("kind -1", x -> x.bulb(-1, 1, 0), BAD);
        leavesStanding("an eighth bulb", x -> x.bulb(0, 1, 0), FULL);
        leavesNew("house(-1)", x -> x.house(-1), BAD);
        leavesNew("no house for a bulb", x -> x.bulb(0, 1, 0), BAD);
        leavesStanding("of(5, 0)", x -> x.of(5, 0), BAD);
        leavesStanding("of(0, 6)", x -> x.of(0, 6), BAD);
        leavesStanding("at(7, 0)", x -> x.at(7, 0), BAD);
        leavesStanding("at(0, 4)", x -> x.at(0, 4), BAD);
        leavesStanding("owes(1, 1)", x -> x.owes(1, 1), BAD);
        leavesStanding("count(8)", x -> x.count(8), BAD);
        leavesStanding("type(31)", x -> x.type(31), BAD);
        leavesStanding("type(127)", x -> x.type(127), BAD);
        leaves(EdgesTest::fullTape, "a letter too many", x -> x.type('1'), FULL);
    }

    private static void refusedDeeds() {
        leavesStanding("years(0)", x -> x.years(0), BAD);
        leavesStanding("years(41)", x -> x.years(41), BAD);
        leavesStanding("drift(0)", x -> x.drift(0), BAD);
        leavesStanding("drift(41)", x -> x.drift(41), BAD);
        leavesStanding("seed(-1)", x -> x.seed(-1), BAD);
        leavesStanding("sell(7, 0)", x -> x.sell(7, 0), BAD);
        leavesStanding("sell(0, 5)", x -> x.sell(0, 5), BAD);
        leavesStanding("its own bulb", x -> x.sell(0, 0), NOT);
        leavesStanding("3 has not so much", x -> x.sell(0, 3), NOT);
        leavesStanding("lend(1, 1, 1)", x -> x.lend(1, 1, 1), BAD);
        leavesStanding("lend(1, 0, 100)", x -> x.lend(1, 0, 100), BAD);
        leavesStanding("3 has not so much", x -> x.lend(3, 0, 99), NOT);
        leavesStanding("0 would owe 1 too much", x -> x.lend(1, 3, 99), NOT);
        leavesStanding("pay(1, 1, 1)", x -> x.pay(1, 1, 1), BAD);
        leavesStanding("pay(1, 2, 0)", x -> x.pay(1, 2, 0), BAD);
        leavesStanding("4 owes 3 less", x -> x.pay(4, 3, 7), NOT);
        leavesStanding("1 has not so much", x -> x.pay(1, 2, 60), NOT);
        leavesNew("undo()", x -> x.undo(), NONE);
        leavesNew("restore()", x -> x.restore(), NONE);
        leavesNew("years(0)", x -> x.years(0), BAD);
        leavesNew("drift(41)", x -> x.drift(41), BAD);
        for (int n = 1; n <= 40; n += 39) {
            int many = n;
            MourningTulips x = make(EdgesTest::lastYear);
            due("years(" + n + ")", x.years(many), FULL);
            alike("years(" + n + ")", x, make(EdgesTest::lastYear), true);
            x = make(EdgesTest::lastYear);
            due("drift(" + n + ")", x.drift(many), FULL);
            alike("drift(" + n + ")", x, make(EdgesTest::lastYear), true);
        }
    }

    private static void refusedByTooMuchCash() {
        Making rich = x -> {
            houses(x, 999, 9, 998);
            x.bulb(STEADY, 3, 0);
            x.bulb(STEADY, 2, 0);
            x.bulb(STEADY, 2, 2);
            due("lend", x.lend(0, 1, 3), 3);
            due("sell", x.sell(0, 1), 3);
        };
        leaves(rich, "0 has 999, and sells", x -> x.sell(1, 1), NOT);
        leaves(rich, "2 has 998, and sells", x -> x.sell(2, 1), NOT);
        leaves(rich, "0 has 999, and borrows", x -> x.lend(1, 0, 1), NOT);
        leaves(rich, "2 has 998, and borrows", x -> x.lend(1, 2, 2), NOT);
        leaves(rich, "0 has 999, and is paid", x -> x.pay(1, 0, 1), NOT);
    }

    private static void refusedForetelling() {
        leavesStanding("price(7, 0)", x -> x.price(7, 0), BAD);
        leavesStanding("price(0, 61)", x -> x.price(0, 61), BAD);
        leavesStanding("then(61)", x -> x.then(61), BAD);
        leavesStanding("goods(5, 0)", x -> x.goods(5, 0), BAD);
        leavesStanding("falls(5)", x -> x.falls(5), BAD);
        leavesStanding("sells(0, 2)", x -> x.sells(0, 2), BAD);
        leavesStanding("gift(5)", x -> x.gift(5), BAD);
        leavesStanding("forgive(2)", x -> x.forgive(2), BAD);
        leavesStanding("settle(3)", x -> x.settle(3), BAD);
        leavesStanding("easter(0, 11, 0)", x -> x.easter(0, 11, 0), BAD);
    }

    private static void refusedSheets() {
        leavesStanding("whose: BAD", x -> x.whose(-2, 0, 2, 0), BAD);
        leavesStanding("whose: NULL", x -> x.whose(-1, 2, 2, 0), NULL);
        leavesStanding("whose: CAST", x -> x.whose(-1, 0, 3, 0), CAST);
        leavesStanding("whose: INDEX", x -> x.whose(-1, 0, 2, 2), INDEX);
        leavesStanding("gone: BAD", x -> x.gone(0, 0, 2, 0, 0, 0), BAD);
        leavesStanding("gone: NULL", x -> x.gone(0, 2, 2, 0, 1, 0), NULL);
        leavesStanding("gone: CAST", x -> x.gone(0, 0, 3, 0, 1, 0), CAST);
        leavesStanding("gone: INDEX", x -> x.gone(0, 0, 2, 0, 7, 0), INDEX);
        leavesStanding("film: BAD", x -> x.film(7, 1, 0, 2, 0), BAD);
        leavesStanding("film: NULL", x -> x.film(0, 1, 2, 2, 0), NULL);
        leavesStanding("film: CAST", x -> x.film(0, 1, 0, 3, 0), CAST);
        leavesStanding("film: INDEX, some would stand", x -> x.film(0, 3, 0, 2, 4), INDEX);
        leavesStanding("film: INDEX, some would stand", x -> x.film(0, 3, 0, 2, -1), INDEX);
        leavesStanding("sheet: BAD", x -> x.sheet(0, 4, 1), BAD);
        leavesStanding("sheet: 25", x -> x.sheet(0, 2, 25), BAD);
        leavesStanding("sheet: SIZE", x -> x.sheet(0, 2, -1), SIZE);
        leavesStanding("drop: BAD", x -> x.drop(4), BAD);
        leavesStanding("drop: NULL", x -> x.drop(2), NULL);
        leavesStanding("item: BAD", x -> x.item(0, 4, 0, 9), BAD);
        leavesStanding("item: NULL", x -> x.item(2, 0, 0, 9), NULL);
        leavesStanding("item: CAST", x -> x.item(0, 3, 0, 9), CAST);
        leavesStanding("item: INDEX", x -> x.item(0, 2, 6, 9), INDEX);
        leavesStanding("item: INDEX", x -> x.item(3, 3, 0, 9), INDEX);
        leavesStanding("copy: BAD", x -> x.copy(0, 0, 4, 0, 1), BAD);
        leavesStanding("copy: NULL", x -> x.copy(0, 0, 2, 0, 1), NULL);
        leavesStanding("copy: CAST", x -> x.copy(0, 0, 1, 0, 1), CAST);
        leavesStanding("copy: INDEX, some would stand", x -> x.copy(0, 0, 0, 3, 4), INDEX);
        leavesStanding("copy: INDEX, some would stand", x -> x.copy(0, 3, 0, 0, 4), INDEX);
    }

    private static void setsAndCuts() {
        says("Sets are bits.");
        MourningTulips x = polder("9,9,9,9,0>0=1;s1,s1,s1,s1,s1,s1,s2@4");
        due("bulbs of 4", x.of(4, 4), 64);
        due("bulbs of 0", x.of(0, 4), 63);
        x = polder("9,9,9,9,0>0=1");
        due("who fails: 4", x.count(3), 16);
        due("alone: 4", x.alone(), 16);
        due("then: 4", x.then(0), 16);
        x = polder("0>4=1,9,9,9,0>0=1;k2");
        due("round: 0 and 4", x.settle(2), 17);
        x.years(1);
        row(x, 0, 0, 6);
        due("kinds: BLACK", x.gone(0, 0, 0, 0, 1, 0), 16);
        says("What is divided is cut.");
        x = polder("0>1=50,0;b99,r19@1,k99@1,s99@1");
        due("half of 99", x.at(0, 3), 49);
        due("a tenth of 19", x.at(1, 3), 21);
        due("half of 99", x.at(2, 3), 49);
        due("half of 99 is less than 50", x.easter(0, 10, 0), 1);
        due("half of 99 is 49", polder("0>1=49,0;b99").easter(0, 10, 0), 0);
    }

    // ---- Terms: ==== 1

    private static void housesAndBulbsAtFirst() {
        says("HOUSES 0 .. 4, as they come, have CASH 0 .. 999, OWE one another 0 .. 99 each (nothing at first).");
        MourningTulips x = houses(0, 999, 99, 1, 998);
        int[] cash = {0, 999, 99, 1, 998};
        for (int h = 0; h < 5; h++) {
            due("cash of " + h, x.of(h, 0), cash[h]);
            for (int o = 0; o < 5; o++) {
                due("owes(" + h + ", " + o + ")", x.owes(h, o), h == o ? BAD : 0);
            }
        }
        due("of(-1, 0)", x.of(-1, 0), BAD);
        due("of(5, 0)", x.of(5, 0), BAD);
        due("99 owed", x.lend(2, 0, 99), 99);
        due("99 owed", x.owes(0, 2), 99);
        due("above 99", x.lend(4, 0, 98), 98);
        due("above 99", x.lend(4, 0, 2), NOT);
        due("99 owed", x.lend(4, 0, 1), 99);
        says("BULBS 0 .. 6, as they come, are of a KIND, have a PRICE 1 .. 99, are held by a HOUSE.");
        x = houses(0, 0, 0, 0, 0);
        for (int b = 0; b < 7; b++) {
            due("bulb " + b, x.bulb(b % 5, b == 0 ? 1 : b == 6 ? 99 : 10 * b, 4 - b % 5), b);
        }
        for (int b = 0; b < 7; b++) {
            due("kind of " + b, x.at(b, 0), b % 5);
            due("price of " + b, x.at(b, 1), b == 0 ? 1 : b == 6 ? 99 : 10 * b);
            due("holder of " + b, x.at(b, 2), 4 - b % 5);
        }
        due("at(-1, 0)", x.at(-1, 0), BAD);
        due("at(7, 0)", x.at(7, 0), BAD);
        says("It is YEAR 0 at first.");
        due("count(2)", new MourningTulips().count(2), 0);
        due("a bulb is halved at once", polder("0;b8").at(0, 3), 4);
    }

    /** What a price is behind a year, by all the calls that tell it. */
    private static int behind(int year, int kind, int price) {
        MourningTulips x = houses(0);
        if (year > 0) {
            x.years(year);
        }
        String what = "kind " + kind + ", price " + price + ", year " + year;
        x.bulb(kind, price, 0);
        int told = x.at(0, 3);
        due("price, " + what, x.price(0, 1), told);
        due("goods, " + what, x.goods(0, 1), told);
        x.sheet(0, 1, 1);
        due("film, " + what, x.film(0, 1, 0, 1, 0), 1);
        due("gone, " + what, x.gone(0, 0, 1, 0, 1, 0) >> kind & 1, 1);
        due("years, " + what, x.years(1), 0);
        due("years, " + what, x.at(0, 1), told);
        return told;
    }

    private static void behindAll(int kind, int[] years, int... pairs) {
        for (int year : years) {
            for (int k = 0; k < pairs.length; k += 2) {
                due("kind " + kind + ", price " + pairs[k] + ", year " + year, behind(year, kind, pairs[k]), pairs[k + 1]);
            }
        }
    }

    private static void kinds() {
        int[] any = {0, 1, 2, 3, 4, 5, 6};
        says("What a PRICE is behind a YEAR, by KIND (99 at most, 1 at least):");
        behindAll(STEADY, any, 1, 1, 99, 99);
        behindAll(RISING, any, 99, 99);
        behindAll(BROKEN, any, 1, 1);
        behindAll(MANIA, any, 99, 1, 1, 3);
        behindAll(BLACK, new int[] {1, 5, 7}, 99, 99, 1, 6);
        behindAll(BLACK, new int[] {0, 2, 4, 6}, 1, 1);
        says("0 STEADY: as it was.");
        behindAll(STEADY, any, 50, 50);
        says("Below it 1 RISING: a tenth more (cut), and 1.");
        behindAll(RISING, any, 1, 2, 9, 10, 10, 12, 19, 21, 20, 23, 88, 97, 89, 98, 90, 99, 91, 99, 98, 99);
        says("2 BROKEN (below STEADY): as it was; but half in YEARS that are a multiple of 3 (0, too).");
        behindAll(BROKEN, new int[] {0, 3, 6, 9, 12}, 2, 1, 3, 1, 4, 2, 98, 49, 99, 49);
        behindAll(BROKEN, new int[] {1, 2, 4, 5, 7, 8, 10, 11}, 2, 2, 3, 3, 99, 99);
        says("3 MANIA (below RISING): as RISING would, if that were done twice; but 1, if that is 90 or more.");
        behindAll(MANIA, any, 2, 4, 8, 10, 9, 12, 71, 87, 72, 89, 73, 1, 74, 1, 89, 1, 90, 1);
        says("4 BLACK (below BROKEN): as BROKEN, 5 more in YEARS of an odd number.");
        behindAll(BLACK, new int[] {0, 6, 12}, 2, 1, 99, 49);
        behindAll(BLACK, new int[] {2, 4, 8, 10}, 2, 2, 99, 99);
        behindAll(BLACK, new int[] {1, 5, 7, 11}, 2, 7, 93, 98, 94, 99, 95, 99);
        behindAll(BLACK, new int[] {3, 9, 15}, 1, 6, 2, 6, 3, 6, 4, 7, 98, 54, 99, 54);
    }

    private static void failing() {
        says("A HOUSE has GOODS: CASH and PRICES of BULBS that it holds.");
        MourningTulips x = houses(999, 7);
        for (int b = 0; b < 7; b++) {
            x.bulb(STEADY, 99, 0);
        }
        due("the most", x.of(0, 1), 999 + 7 * 99);
        due("no bulbs", x.of(1, 1), 7);
        due("nothing", houses(0).of(0, 1), 0);
        says("It FAILS, if GOODS and what others OWE it are less than what it OWES;");
        due("as much, in cash", polder("5>1=5,0").count(3), 0);
        due("1 less, in cash", polder("4>1=5,0").count(3), 1);
        due("as much, by bulbs", polder("2>1=5,0;s1,s2").count(3), 0);
        due("1 less, by bulbs", polder("2>1=5,0;s1,s1").count(3), 1);
        due("as much, by what others owe", polder("1>1=5,5>0=4").count(3), 0);
        due("1 less, by what others owe", polder("1>1=5,5>0=3").count(3), 1);
        due("nothing, and owes nothing", polder("0").count(3), 0);
        due("no houses", new MourningTulips().count(3), 0);
        says("what a HOUSE that FAILS OWES is worth nothing to others, who may FAIL by that in their turn, and so on till no"
            + " more do");
        due("a chain of five", polder("0>1=90,0>2=80,0>3=70,0>4=60,0>0=50").count(3), 31);
        due("a chain of five, up", polder("0>4=50,0>0=60,0>1=70,0>2=80,0>3=90").count(3), 31);
        due("the last one bears it", polder("0>1=90,0>2=80,70>3=70,0>4=60,0").count(3), 3);
        due("the last one lacks 1", polder("0>1=90,0>2=80,69>3=70,0>4=60,0").count(3), 15);
        due("a round of nothing stands", polder("0>1=99,0>0=99").count(3), 0);
        due("a round that lacks 1", polder("0>1=99>2=1,0>0=99,0").count(3), 3);
        says("(GOODS of those that FAIL stay theirs; what is OWED to them stays so).");
        x = polder("3>2=13,5>0=6,0;s1@0,s2@0");
        due("0 has 6 and 6 for 13; 1 has 5 for the 6 that it owes 0", x.count(3), 3);
        due("goods of 0", x.of(0, 1), 6);
        due("bulbs of 0", x.of(0, 4), 3);
        due("1 owes as ever", x.of(1, 2), 6);
        due("1 owes as ever", x.of(0, 3), 6);
    }

    private static void deeds() {
        says("A YEAR: all PRICES go, by how all is ahead of it. It is the next YEAR.");
        MourningTulips x = polder("5,6>0=2;s10,r10,b11,m10,k11,b1,m99@1");
        int[] behind1 = {10, 12, 5, 14, 5, 1, 1};
        int[] behind2 = {10, 14, 5, 18, 10, 1, 3};
        due("years(1)", x.years(1), 0);
        due("the year", x.count(2), 1);
        for (int b = 0; b < 7; b++) {
            due("bulb " + b + " behind 1", x.at(b, 1), behind1[b]);
        }
        due("years(1)", x.years(1), 0);
        due("the year", x.count(2), 2);
        for (int b = 0; b < 7; b++) {
            due("bulb " + b + " behind 2", x.at(b, 1), behind2[b]);
        }
        due("cash", x.count(4), 11);
        due("debts", x.owes(1, 0), 2);
        says("SOLD: a BULB goes to another HOUSE for its PRICE, which that has as CASH.");
        x = polder("3,9,0;s9");
        due("sold for all it has", x.sell(0, 1), 9);
        due("seller's cash", x.of(0, 0), 12);
        due("buyer's cash", x.of(1, 0), 0);
        due("buyer's bulb", x.of(1, 4), 1);
        due("seller's bulb", x.of(0, 4), 0);
        due("who has less", x.sell(0, 2), NOT);
        due("who had it has 12", x.sell(0, 0), 9);
        says("LENT: a HOUSE OWES another one n more (99 at most), and has n of its CASH.");
        x = polder("99,99,0");
        due("99", x.lend(0, 2, 99), 99);
        due("cash", x.of(0, 0), 0);
        due("cash", x.of(2, 0), 99);
        due("another one", x.lend(1, 2, 1), 1);
        due("one more", x.lend(1, 2, 98), 99);
        due("owed to 1", x.owes(2, 1), 99);
        due("owes both", x.of(2, 2), 198);
        says("PAID: a HOUSE OWES another one n less, by n of its CASH.");
        due("all of it", x.pay(2, 0, 99), 0);
        due("cash", x.of(2, 0), 99);
        due("cash", x.of(0, 0), 99);
        due("1", x.pay(2, 1, 1), 98);
        due("the rest", x.pay(2, 1, 98), 0);
        due("cash", x.of(2, 0), 0);
        due("nobody owes", x.count(6), 0);
    }

    // ---- Terms: ==== 2

    private static void foretold() {
        says("FORETOLD from now (nothing is changed): behind n YEARS (0 .. 60) the PRICE of a BULB; who FAILS (a set); GOODS"
            + " of a HOUSE.");
        leavesStanding("price(0, 60)", x -> x.price(0, 60), 30);
        leavesStanding("then(0)", x -> x.then(0) == x.count(3) ? 1 : 0, 1);
        leavesStanding("then(60)", x -> x.then(60) >= 0 ? 1 : 0, 1);
        leavesStanding("goods(0, 60)", x -> x.goods(0, 60) - x.goods(0, 0), 0);
        leavesStanding("falls(0)", x -> x.falls(0) >= NONE ? 1 : 0, 1);
        leavesStanding("alone()", x -> x.alone() >= 0 ? 1 : 0, 1);
        leavesStanding("sells(3, 0)", x -> x.sells(3, 0) >= 0 ? 1 : 0, 1);
        leavesStanding("gift(0)", x -> x.gift(0) >= NONE ? 1 : 0, 1);
        leavesStanding("forgive(0)", x -> x.forgive(0) > 0 ? 1 : 0, 1);
        leavesStanding("settle(0)", x -> x.settle(0) > 0 ? 1 : 0, 1);
        leavesStanding("settle(2)", x -> x.settle(2) > 0 ? 1 : 0, 1);
        leavesStanding("easter(0, 5, 0)", x -> x.easter(0, 5, 0) >= 0 ? 1 : 0, 1);
        leavesStanding("whose", x -> x.whose(-1, 0, 2, 0) >= 0 ? 1 : 0, 1);
        leavesStanding("gone", x -> x.gone(3, 0, 2, 0, 6, 1) >= 0 ? 1 : 0, 1);
        int[] out = {-1, 61, LOW, HIGH};
        for (int n : out) {
            MourningTulips x = polder("0;s9");
            due("price(0, " + n + ")", x.price(0, n), BAD);
            due("then(" + n + ")", x.then(n), BAD);
            due("goods(0, " + n + ")", x.goods(0, n), BAD);
        }
        for (int start = 0; start < 6; start++) {
            MourningTulips now = polder("5>1=40,0>2=30,0>0=25;k60,m20@1,b70@2,r3");
            MourningTulips later = polder("5>1=40,0>2=30,0>0=25;k60,m20@1,b70@2,r3");
            if (start > 0) {
                now.years(start);
                later.years(start);
            }
            for (int n = 0; n <= 60; n++) {
                due("then(" + n + ") in year " + start, now.then(n), later.count(3));
                due("price(0, " + n + ") in year " + start, now.price(0, n), later.at(0, 1));
                due("price(1, " + n + ") in year " + start, now.price(1, n), later.at(1, 1));
                due("goods(2, " + n + ") in year " + start, now.goods(2, n), later.of(2, 1));
                later.years(1);
            }
        }
    }

    private static void fallsAndAlone() {
        says("FALLS of a HOUSE: the first of 0 to 60 YEARS behind which it FAILS; none.");
        due("fails now", polder("0>1=1,0").falls(0), 0);
        due("never", polder("1>1=1,0").falls(0), NONE);
        due("owes nothing", polder("0").falls(0), NONE);
        due("behind 1", polder("0>1=20,0;b20").falls(0), 1);
        // In year 3 these three come to less than 18 behind 61 years, for the first time.
        MourningTulips x = polder("0>1=18,0");
        x.years(3);
        x.bulb(BLACK, 68, 0);
        x.bulb(MANIA, 36, 0);
        x.bulb(MANIA, 54, 0);
        due("first behind 61", x.falls(0), NONE);
        due("goods behind 60", x.goods(0, 60) < 18 ? 1 : 0, 0);
        due("years(1)", x.years(1), 0);
        due("first behind 60", x.falls(0), 60);
        due("goods behind 60", x.goods(0, 60), 17);
        due("years(1)", x.years(1), 0);
        due("first behind 59", x.falls(0), 59);
        due("by another's fall", polder("0>1=20,19>2=20,0;b20").falls(1), 1);
        says("ALONE: HOUSES that FAIL now by themselves, were all others to pay (a set).");
        due("the first of a chain", polder("0>1=90,0>2=80,0>3=70,0>4=60,0>0=50").alone(), 1);
        due("all but the last", polder("0>1=1,0>2=2,0>3=3,0>4=4,0").alone(), 15);
        due("as much", polder("5>1=5,0").alone(), 0);
        due("1 less", polder("4>1=5,0").alone(), 1);
        due("no houses", new MourningTulips().alone(), 0);
    }

    private static void sellAndGift() {
        says("SELL for a BULB: behind how many of 0 to 40 YEARS its PRICE is greatest, of like ones the first; how great.");
        MourningTulips x = polder("0;s50,r1,r99,r90,b9,m1,k99");
        int[] when = {0, 29, 0, 1, 0, 13, 0};
        int[] great = {50, 99, 99, 99, 9, 76, 99};
        for (int b = 0; b < 7; b++) {
            due("when, bulb " + b, x.sells(b, 0), when[b]);
            due("how great, bulb " + b, x.sells(b, 1), great[b]);
        }
        x = polder("0;m73,m72,m89,k1");
        due("73, then 1 .. 76", x.sells(0, 0), 14);
        due("73, then 1 .. 76", x.sells(0, 1), 76);
        due("72, then 89", x.sells(1, 0), 1);
        due("72, then 89", x.sells(1, 1), 89);
        due("89 now", x.sells(2, 0), 0);
        // 1 1 6 6 8 8 13 6 11 11 10 10 15 7 12 12 11 11 16, and from there on 8 13 13 11 11 16.
        due("16 behind 18", x.sells(3, 0), 18);
        due("16 behind 18", x.sells(3, 1), 16);
        says("GIFT for a HOUSE: the least CASH (0 .. 999) given to it now (above 999 well) by which nobody FAILS; none.");
        due("nobody fails", polder("5>1=5,0").gift(0), 0);
        due("nobody fails", polder("5>1=5,0").gift(1), 0);
        due("1", polder("4>1=5,0").gift(0), 1);
        due("another one fails", polder("4>1=5,0").gift(1), NONE);
        due("another one falls by it", polder("0>1=9,0>2=9,0").gift(0), 9);
        due("who falls by another", polder("0>1=9,0>2=9,0").gift(1), NONE);
        due("all that it may owe", polder("0>1=99>2=99>3=99>4=99,0,0,0,0").gift(0), 396);
        due("two fail alone", polder("0>2=1,0>2=1,0").gift(0), NONE);
        for (int h = 1; h < 5; h++) {
            due("house " + h, polder("9,".repeat(h) + "4>0=7").gift(h), 3);
            due("house " + h + " can't help another", polder("4>1=7,9,9,9,9").gift(h), NONE);
        }
        x = houses(999, 0);
        x.bulb(STEADY, 5, 0);
        due("it has 999 already", x.gift(0), 0);
    }

    private static void forgive() {
        says("FORGIVE: the debt (who OWES, to whom) that, were it nothing now, leaves fewest FAILING, of like ones the first"
            + " (who OWES, then to whom; one above 0): told as 10 times who OWES, and to whom; how many FAIL then; none:"
            + " nobody OWES anything.");
        MourningTulips x = polder("9,9,9,9>2=1>1=1,9>3=1");
        due("of like ones the first", x.forgive(0), 31);
        due("nobody fails", x.forgive(1), 0);
        x = polder("0>1=5,0>2=5,0>3=5,0>4=5,0");
        due("the chain's first", x.forgive(0), 1);
        due("1 fails then, and all behind it", x.forgive(1), 3);
        x = polder("9>1=1,0>2=5,9>0=1,0,0");
        due("the one that helps", x.forgive(0), 12);
        due("nobody fails then", x.forgive(1), 0);
        due("the last of all", polder("9,9,9,9,0>3=5").forgive(0), 43);
        due("owed to 0", polder("9,0>0=5>2=5,9").forgive(0), 10);
        due("owed to 0", polder("9,9>0=5").forgive(0), 10);
        due("none helps", polder("0>1=5>2=5,9,9").forgive(1), 1);
        due("none helps: the first", polder("0>2=5>1=5,9,9").forgive(0), 1);
        due("the others are worse for whom it is owed", polder("9>1=9,0>2=9,0>3=9,0").forgive(0), 23);
        due("the others are worse for whom it is owed", polder("9>1=9,0>2=9,0>3=9,0").forgive(1), 0);
        due("nobody owes", polder("0,0").forgive(0), NONE);
        due("nobody owes", polder("0,0").forgive(1), NONE);
        due("no houses", new MourningTulips().forgive(0), NONE);
        due("no houses", new MourningTulips().forgive(1), NONE);
    }

    private static void settle() {
        says("SETTLE: NET of a HOUSE is what others OWE it less what it OWES. The fewest payments (any sums, from one HOUSE to"
            + " another one) by which all NETS are 0: how many.");
        due("no houses", new MourningTulips().settle(0), 0);
        due("one house", polder("5").settle(0), 0);
        due("nobody owes", polder("5,5,5,5,5").settle(0), 0);
        due("all nets are 0", polder("0>1=9,0>2=9,0>3=9,0>4=9,0>0=9").settle(0), 0);
        due("one", polder("0>1=9,0>2=9,0>3=9,0>4=9,0").settle(0), 1);
        due("two pairs", polder("0>1=9,0,0>3=8,0,0").settle(0), 2);
        due("a pair and three: -7 -5 12, -9 9", polder("0>2=7,0>2=5,0,0>4=9,0").settle(0), 3);
        due("the same, owed crosswise", polder("0>2=7,0>4=5,0,0>2=5>4=4,0").settle(0), 3);
        due("four for five: -1 -2 -4 -8 15", polder("0>4=1,0>4=2,0>4=4,0>4=8,0").settle(0), 4);
        says("SUM: how much is paid so at least (all NETS above 0, together).");
        due("no houses", new MourningTulips().settle(1), 0);
        due("all nets are 0", polder("0>1=9,0>0=9").settle(1), 0);
        due("15", polder("0>4=1,0>4=2,0>4=4,0>4=8,0").settle(1), 15);
        due("the most", polder("0>1=99>2=99>3=99>4=99,0,0,0,0").settle(1), 396);
        due("12 and 9", polder("0>2=7,0>4=5,0,0>2=5>4=4,0").settle(1), 21);
        due("owed to 0", polder("0,0>0=7,0>0=8").settle(1), 15);
        says("RING: whether some OWE one another round (a OWES b, b OWES c, .. back to a, two at least): HOUSES on such a"
            + " round (a set; 0: none).");
        due("no houses", new MourningTulips().settle(2), 0);
        due("one owes", polder("0>1=9,0").settle(2), 0);
        due("two", polder("0>1=9,0>0=1").settle(2), 3);
        due("five", polder("0>1=9,0>2=9,0>3=9,0>4=9,0>0=9").settle(2), 31);
        due("five, but one", polder("0>1=9,0>2=9,0>3=9,0>4=9,0").settle(2), 0);
        due("into a round, and out of one", polder("0>1=9,0>2=9,0>1=9>3=9,0,0").settle(2), 6);
        MourningTulips x = polder("0>1=9,1>0=1");
        due("a round", x.settle(2), 3);
        x.pay(1, 0, 1);
        due("no round since it is paid", x.settle(2), 0);
        due("two rounds, and one between", polder("0>1=9,0>0=9>2=9,0>3=9,0>4=9,0>3=9").settle(2), 27);
    }

    private static void easter() {
        says("EASTER by c of 10 (0 .. 10): each BULB is worth half (cut, 1 at least) in this moment by c of 10, apart: how"
            + " likely a HOUSE FAILS then: a fraction in lowest terms.");
        MourningTulips x = polder("0>1=99,0;s99");
        int[] above = {0, 1, 1, 3, 2, 1, 3, 7, 4, 9, 1};
        int[] below = {1, 10, 5, 10, 5, 2, 5, 10, 5, 10, 1};
        for (int c = 0; c <= 10; c++) {
            due("above, c " + c, x.easter(0, c, 0), above[c]);
            due("below, c " + c, x.easter(0, c, 1), below[c]);
        }
        due("c -1", x.easter(0, -1, 0), BAD);
        due("c 11", x.easter(0, 11, 0), BAD);
        due("1 stays 1", polder("0>1=1,0;s1").easter(0, 10, 0), 0);
        due("3 becomes 1", polder("0>1=2,0;s3").easter(0, 10, 0), 1);
        due("no bulbs, fails", polder("0>1=1,0").easter(0, 0, 0), 1);
        due("no bulbs, fails", polder("0>1=1,0").easter(0, 0, 1), 1);
        due("no bulbs, stands", polder("0,0").easter(0, 10, 0), 0);
        due("no bulbs, stands", polder("0,0").easter(0, 10, 1), 1);
        // Each of seven is needed whole: 1 less 0.9 to the seventh, and 1 less 0.7 to the seventh.
        x = polder("0>1=70,0;s10,s10,s10,s10,s10,s10,s10");
        due("above", x.easter(0, 1, 0), 10000000 - 4782969);
        due("below", x.easter(0, 1, 1), 10000000);
        due("above", x.easter(0, 3, 0), 10000000 - 823543);
        due("below", x.easter(0, 3, 1), 10000000);
        due("above", x.easter(0, 5, 0), 127);
        due("below", x.easter(0, 5, 1), 128);
        // Only when all seven are halved it fails.
        x = polder("0>1=36,0;s10,s10,s10,s10,s10,s10,s10");
        due("above", x.easter(0, 9, 0), 4782969);
        due("below", x.easter(0, 9, 1), 10000000);
        due("above", x.easter(0, 4, 0), 128);
        due("below", x.easter(0, 4, 1), 78125);
        due("by another's fall", polder("0>1=10,9>2=10,0;s10").easter(1, 5, 0), 1);
        due("as it is, in no year", polder("0>1=10,0;r10").easter(0, 0, 0), 0);
        x = houses(9, 0);
        x.bulb(STEADY, 8, 0);
        x.lend(0, 1, 9);
        x.sell(0, 1);
        due("lent and sold: 1 and 8 for 9", x.easter(1, 5, 0), 1);
        due("lent and sold: 1 and 8 for 9", x.easter(1, 5, 1), 2);
        x.undo();
        due("not sold: 9 for 9", x.easter(1, 5, 0), 0);
    }

    private static void trueShares() {
        says("TRUE: each BULB might be of any HOUSE; in how many ways PRICES of a HOUSE's BULBS are as much as a row tells for"
            + " each of HOUSES (see 3).");
        MourningTulips x = polder("0,0,0,0,0;s9@4,s9@4,s9@4,s9@4,s9@4,s9@4,s9@4");
        row(x, 0, 1, 9, 9, 9, 18, 18);
        due("7! by 2! 2!", x.whose(-1, 0, 1, 0), 1260);
        row(x, 0, 1, 63, 0, 0, 0, 0);
        due("all to one", x.whose(-1, 0, 1, 0), 1);
        row(x, 0, 1, 62, 1, 0, 0, 0);
        due("no way", x.whose(-1, 0, 1, 0), 0);
        row(x, 0, 1, 9, 9, 9, 18, 9);
        due("not all bulbs are of one", x.whose(-1, 0, 1, 0), 0);
        row(x, 0, 1, -9, 18, 18, 18, 18);
        due("less than nothing", x.whose(-1, 0, 1, 0), 0);
        x = polder("0");
        row(x, 0, 1, 0, 1);
        due("no bulbs: one way", x.whose(-1, 0, 1, 0), 1);
        due("no bulbs: none", x.whose(-1, 0, 1, 1), 0);
        x = new MourningTulips();
        x.sheet(0, 1, 0);
        due("no houses, no bulbs: one way", x.whose(-1, 0, 1, 0), 1);
        says("TRUE by a row of as many items as there are HOUSES: how many ways; BULBS (a set) that are of a told HOUSE in"
            + " all of these (no way: 0).");
        x = polder("0,0;s1,s2,s3,s4,s5,s6,s99@1");
        row(x, 0, 1, 119, 1, 119);
        due("1 and the others", x.whose(-1, 0, 1, 0), 1);
        due("all but 0", x.whose(0, 0, 1, 0), 126);
        due("0", x.whose(1, 0, 1, 0), 1);
        due("the others, and 1", x.whose(1, 0, 1, 1), 126);
        row(x, 0, 1, 3, 117);
        due("3, or 1 and 2", x.whose(-1, 0, 1, 0), 2);
        due("none of 0 in both", x.whose(0, 0, 1, 0), 0);
        due("4 5 6 99 of 1 in both", x.whose(1, 0, 1, 0), 8 + 16 + 32 + 64);
        row(x, 0, 1, 121, 0);
        due("no way", x.whose(-1, 0, 1, 0), 0);
        due("no way: 0", x.whose(0, 0, 1, 0), 0);
        due("no way: 0", x.whose(1, 0, 1, 0), 0);
    }

    // ---- Terms: ==== 3

    private static void goneBy() {
        says("GONE: a row tells the PRICE of a BULB behind each of the next n YEARS (1 .. 8): KINDS (a set) of it by which it"
            + " would be so; what PRICE (1 .. 99) it might have now: how many such; the least; none.");
        MourningTulips x = polder("0;s1,r99,b1,m99,k1");
        row(x, 0, 1, 1, 1, 1, 1, 1, 1, 1, 1, 1);
        due("n 0", x.gone(0, 0, 1, 0, 0, 0), BAD);
        due("n 9", x.gone(0, 0, 1, 0, 9, 0), BAD);
        due("1, 1 year: STEADY, BROKEN, BLACK", x.gone(0, 0, 1, 0, 1, 0), 21);
        due("1, 8 years: STEADY, BROKEN", x.gone(0, 0, 1, 0, 8, 0), 5);
        due("STEADY 1", x.gone(0, 0, 1, 1, 8, 1), 1);
        due("STEADY 1", x.gone(0, 0, 1, 1, 8, 2), 1);
        due("RISING never 1", x.gone(1, 0, 1, 0, 1, 1), 0);
        due("RISING never 1", x.gone(1, 0, 1, 0, 1, 2), NONE);
        due("BROKEN 1, 2, 3", x.gone(2, 0, 1, 0, 1, 1), 3);
        due("BROKEN 1, 2, 3", x.gone(2, 0, 1, 0, 8, 2), 1);
        due("MANIA 73 .. 99", x.gone(3, 0, 1, 0, 1, 1), 27);
        due("MANIA 73", x.gone(3, 0, 1, 0, 1, 2), 73);
        row(x, 0, 1, 99, 99, 49, 50, 100, 0, -1);
        due("STEADY 99", x.gone(0, 0, 1, 0, 2, 2), 99);
        due("RISING 90 .. 99", x.gone(1, 0, 1, 0, 2, 1), 10);
        due("RISING 90", x.gone(1, 0, 1, 0, 2, 2), 90);
        due("RISING 99: kinds", x.gone(1, 0, 1, 0, 2, 0), 3);
        due("BROKEN 98, 99", x.gone(2, 0, 1, 2, 1, 1), 2);
        due("BROKEN 98", x.gone(2, 0, 1, 2, 1, 2), 98);
        due("BROKEN 100 is no price", x.gone(2, 0, 1, 3, 1, 1), 0);
        due("BROKEN 100 is no price", x.gone(2, 0, 1, 3, 1, 2), NONE);
        for (int i = 4; i <= 6; i++) {
            for (int b = 0; b < 5; b++) {
                due("no price: kinds", x.gone(b, 0, 1, i, 1, 0), 0);
                due("no price: how many", x.gone(b, 0, 1, i, 1, 1), 0);
                due("no price: the least", x.gone(b, 0, 1, i, 1, 2), NONE);
            }
        }
        row(x, 0, 1, 9, 9, 9, 9, 9, 9, 9, 8);
        due("the last of 8 is looked at", x.gone(0, 0, 1, 0, 8, 1), 0);
        due("7 of 8", x.gone(0, 0, 1, 0, 7, 2), 9);
        for (int year = 0; year < 6; year++) {
            x = polder("0");
            x.sheet(0, 1, 8);
            if (year > 0) {
                x.years(year);
            }
            for (int kind = STEADY; kind <= BLACK; kind++) {
                x.bulb(kind, 40, 0);
                x.film(kind, 8, 0, 1, 0);
                due("kind " + kind + " from year " + year, x.gone(kind, 0, 1, 0, 8, 0), 1 << kind);
                due("the least that goes as 40, from year " + year, x.gone(kind, 0, 1, 0, 8, 2), 40);
            }
        }
    }

    private static void undone() {
        says("UNDONE: the latest YEAR, SOLD, LENT, PAID is as it had not been (8 are known, older ones lost): CASH, debts,"
            + " PRICES, who holds what, the YEAR, THE DRAW are as ahead of it, whatever was told since;");
        MourningTulips x = polder("50,50>0=9;r10,b20@1");
        due("nothing yet", x.count(7), 0);
        due("nothing yet", x.undo(), NONE);
        for (int k = 1; k <= 20; k++) {
            x.years(1);
            due("known behind " + k, x.count(7), Math.min(k, 8));
        }
        for (int k = 7; k >= 0; k--) {
            due("undo", x.undo(), k);
            due("the year", x.count(2), 12 + k);
        }
        due("older ones are lost", x.undo(), NONE);
        due("the year", x.count(2), 12);
        String text = "50,50>0=9;r10,b20@1";
        undoes(text, "YEAR", y -> y.years(1));
        undoes(text, "SOLD", y -> y.sell(0, 1));
        undoes(text, "LENT", y -> y.lend(0, 1, 5));
        undoes(text, "PAID", y -> y.pay(1, 0, 5));
        undoes(text, "a YEAR of a DRIFT", y -> y.drift(1));
        says("a POLDER, a new HOUSE, BULB leave nothing to be UNDONE.");
        x = polder(text);
        x.years(9);
        due("a new house", x.house(1), 2);
        due("nothing to be undone", x.count(7), 0);
        due("nothing to be undone", x.undo(), NONE);
        x.years(9);
        due("a new bulb", x.bulb(0, 1, 2), 2);
        due("nothing to be undone", x.count(7), 0);
        due("nothing to be undone", x.undo(), NONE);
        x.years(9);
        due("a polder", read(x, "1"), 1);
        due("nothing to be undone", x.count(7), 0);
        due("nothing to be undone", x.undo(), NONE);
        x.years(1);
        due("a refused house", x.house(-1), BAD);
        due("a refused bulb", x.bulb(0, 0, 0), BAD);
        due("a refused polder", read(x, "1,"), -22);
        due("still to be undone", x.count(7), 1);
        due("still to be undone", x.undo(), 0);
    }

    private static void undoes(String text, String what, Call deed) {
        MourningTulips x = polder(text);
        x.seed(77);
        x.lend(1, 0, 2);
        due(what, deed.on(x) >= 0 ? 1 : 0, 1);
        x.seed(78);
        due(what + " undone", x.undo(), 1);
        MourningTulips twin = polder(text);
        twin.seed(77);
        twin.lend(1, 0, 2);
        alike(what + " undone", x, twin, false);
    }

    private static void drifts() {
        says("DRIFT by a seed: THE DRAW is a number of 31 bits (1 at first);");
        MourningTulips x = new MourningTulips();
        due("at first", x.seed(HIGH), 1);
        due("31 bits", x.seed(0), HIGH);
        due("0", x.seed(-1), BAD);
        due("0", x.seed(1), 0);
        says("ahead of each YEAR of a DRIFT it becomes the lowest 31 bits of itself times 1103515245 and 12345 more:");
        int[] seeds = {0, 1, 2, HIGH, HIGH - 1, 1 << 30, 1103515245, 987654321, 12345};
        for (int seed : seeds) {
            x = new MourningTulips();
            x.seed(seed);
            due("drift(1)", x.drift(1), 0);
            due("behind 1 from " + seed, x.seed(seed), drawn(seed, 1));
            due("drift(40)", x.drift(40), 0);
            due("behind 40 from " + seed, x.seed(seed), drawn(seed, 40));
            due("years(3)", x.years(3), 0);
            due("years draw nothing", x.seed(seed), seed);
        }
        says("if there are HOUSES, the one that it is by 65536, left over by how many there are, has it by 128, left over by"
            + " 9, more CASH (999 at most).");
        due("no houses", new MourningTulips().drift(40), 0);
        for (int many = 1; many <= 5; many++) {
            for (int seed : seeds) {
                luck(many, seed, 0);
                luck(many, seed, 992);
                luck(many, seed, 999);
            }
        }
    }

    private static int drawn(int seed, int n) {
        BigInteger draw = BigInteger.valueOf(seed);
        for (int k = 0; k < n; k++) {
            draw = draw.multiply(BigInteger.valueOf(1103515245)).add(BigInteger.valueOf(12345)).mod(BigInteger.ONE.shiftLeft(31));
        }
        return draw.intValueExact();
    }

    private static void luck(int many, int seed, int start) {
        int[] cash = new int[many];
        for (int h = 0; h < many; h++) {
            cash[h] = start;
        }
        MourningTulips x = houses(cash);
        x.seed(seed);
        due("drift(12)", x.drift(12), 0);
        for (int k = 1; k <= 12; k++) {
            int draw = drawn(seed, k);
            int h = draw / 65536 % many;
            cash[h] = Math.min(999, cash[h] + draw / 128 % 9);
        }
        for (int h = 0; h < many; h++) {
            due("cash of " + h + " of " + many + " from " + seed, x.of(h, 0), cash[h]);
        }
    }

    private static void well(String text, int houses) {
        MourningTulips x = new MourningTulips();
        due("read of '" + text + "'", read(x, text), houses);
        due("houses of '" + text + "'", x.count(0), houses);
    }

    private static void fault(String text, int place) {
        MourningTulips x = polder("7");
        due("read of '" + text + "'", read(x, text), -20 - place);
        due("all stays, but '" + text + "'", x.count(4), 7);
        due("the tape is empty", x.type(' '), 1);
    }

    private static void texts() {
        says("A POLDER is a TEXT: 1 to 5 HOUSES with , between:");
        fault("", 0);
        well("1", 1);
        well("1,2", 2);
        well("1,2,3,4,5", 5);
        fault("1,2,3,4,5,6", 9);
        fault("1,2,3,4,5,", 9);
        fault("1,", 2);
        fault(",1", 0);
        fault("1,,2", 2);
        fault("1;2", 2);
        fault(";s1", 0);
        says("a number 0 .. 99 (CASH),");
        due("0", polder("0").of(0, 0), 0);
        due("00", polder("00").of(0, 0), 0);
        due("09", polder("09").of(0, 0), 9);
        due("99", polder("99").of(0, 0), 99);
        fault("100", 2);
        fault("-1", 0);
        fault("1,x", 2);
        says("then any pairs of > and a digit 0 .. 4 (a HOUSE, told later, maybe; not itself, none twice),");
        MourningTulips x = polder("1>4=11>3=12>2=13>1=14,1,1,1,1>0=15");
        for (int to = 1; to < 5; to++) {
            due("0 owes " + to, x.owes(0, to), 15 - to);
        }
        due("told earlier", x.owes(4, 0), 15);
        fault("1>5=1,1,1,1,1", 2);
        fault("1>/=1", 2);
        fault("1>:=1", 2);
        fault("1>0=1,1", 2);
        fault("1,1>1=1", 4);
        fault("1,1,1,1,1>4=1", 10);
        fault("1>1=1>1=1,1", 6);
        fault("1>1=1>2=1>1=1,1,1", 10);
        fault("1>1=1>2=1>3=1>4=1>", 18);
        fault("1>1=1>2=1>3=1>4=1>4=1,1,1,1,1", 18);
        fault("1>", 2);
        fault("1>>1=1,1", 2);
        fault("1>12=1,1", 3);
        says("and = and a number 1 .. 99 behind each (OWES it so much);");
        due("1", polder("1>1=1,1").owes(0, 1), 1);
        due("01", polder("1>1=01,1").owes(0, 1), 1);
        due("99", polder("1>1=99,1").owes(0, 1), 99);
        fault("1>1=0,1", 4);
        fault("1>1=00,1", 4);
        fault("1>1=100,1", 6);
        fault("1>1", 3);
        fault("1>1,1", 3);
        fault("1>1=", 4);
        fault("1>1=,1", 4);
        fault("1>1==1,1", 4);
        fault("1=1,1", 1);
    }

    private static void textsOfBulbs() {
        says("then perhaps ; and 1 to 7 BULBS with , between:");
        due("none", polder("1").count(1), 0);
        due("one", polder("1;s1").count(1), 1);
        due("seven", polder("1;s1,s1,s1,s1,s1,s1,s1").count(1), 7);
        fault("1;s1,s1,s1,s1,s1,s1,s1,s1", 22);
        fault("1;s1,s1,s1,s1,s1,s1,s1,", 22);
        fault("1;", 2);
        fault("1;s1,", 5);
        fault("1;,s1", 2);
        fault("1;s1;s1", 4);
        fault("1;;s1", 2);
        fault("1;s1,1", 5);
        says("s r b m k (STEADY, RISING, BROKEN, MANIA, BLACK), a number 1 .. 99 (PRICE),");
        MourningTulips x = polder("1;s1,r99,b01,m2,k3");
        int[] prices = {1, 99, 1, 2, 3};
        for (int b = 0; b < 5; b++) {
            due("kind of " + b, x.at(b, 0), b);
            due("price of " + b, x.at(b, 1), prices[b]);
        }
        for (char letter = 33; letter < 127; letter++) {
            if ("srbmk".indexOf(letter) < 0) {
                fault("1;" + letter + "1", 2);
            }
        }
        fault("1;s0", 3);
        fault("1;s00", 3);
        fault("1;s100", 5);
        fault("1;s", 3);
        fault("1;s,", 3);
        fault("1;ss1", 3);
        fault("1;s@0", 3);
        says("then perhaps @ and a digit of a HOUSE there is (else 0):");
        x = polder("1,2,3,4,5;s1,s2@0,s3@4");
        due("else 0", x.at(0, 2), 0);
        due("0", x.at(1, 2), 0);
        due("4", x.at(2, 2), 4);
        fault("1,2,3,4;s1@4", 11);
        fault("1,2,3,4,5;s1@5", 13);
        fault("1;s1@1", 5);
        fault("1;s1@/", 5);
        fault("1;s1@", 5);
        fault("1;s1@,s1", 5);
        fault("1;s1@00", 6);
        fault("1;s1@0@0", 6);
        says("in place of all; YEAR 0 (THE DRAW stays).");
        x = make(EdgesTest::standing);
        x.read();
        x.then(60);
        x.seed(1234);
        due("read", read(x, "8,9"), 2);
        int[] counts = {2, 0, 0, 0, 17, 0, 0, 0};
        for (int what = 0; what <= 7; what++) {
            due("count(" + what + ")", x.count(what), counts[what]);
        }
        due("the draw, as seeded behind the last that was foretold", x.seed(0), 1234);
        due("a third house is new", x.house(4), 2);
        due("it owes nothing", x.of(2, 2) + x.of(2, 3), 0);
        due("the image stays", x.restore(), 1);
        due("the image stays", x.count(0), 5);
    }

    private static void textFaults() {
        says("One that OWES a HOUSE there is not at the end is a FAULT at the end, when all else is well.");
        fault("1>1=1", 5);
        fault("1>4=1,1,1,1", 11);
        well("1>4=1,1,1,1,1", 5);
        fault("1,1>2=1;s1@1", 12);
        fault("1>1=1  ", 7);
        fault("1>1=1x", 5);
        fault("1>1=1;x", 6);
        fault("1>1=1;s0", 7);
        fault("1>1=1;s1@1", 9);
        fault("1>1=1;s1,", 9);
        says("Numbers have 1 or 2 digits (a third one can't stand there).");
        fault("000", 2);
        fault("123", 2);
        fault("1>1=123,1", 6);
        fault("1;s123", 5);
        fault("1,234", 4);
        says("FAULTS: -20 less the place of the first letter (behind blanks) that can't stand there, or of the number's first"
            + " digit, if it is not as told (the end: how many there are);");
        fault("x", 0);
        fault("   x", 3);
        fault("1  x y", 3);
        fault("1,   ,", 5);
        fault("1;s   00 ", 6);
        fault("1>1=   0 ,1", 7);
        fault("   ", 3);
        fault("1,   ", 5);
        fault("1;s1@  ", 7);
        fault(" ".repeat(100), 100);
        fault("1," + " ".repeat(98), 100);
        fault("1" + " ".repeat(98) + "x", 99);
        well("1" + " ".repeat(99), 1);
        well(" ".repeat(99) + "1", 1);
        says("blanks count for nothing, but end a number.");
        MourningTulips x = polder("  1 > 1 = 5 , 23  ; s 1 @ 1 , r 9  ");
        due("houses", x.count(0), 2);
        due("owes", x.owes(0, 1), 5);
        due("cash", x.of(1, 0), 23);
        due("holder", x.at(0, 2), 1);
        due("price", x.at(1, 1), 9);
        fault("1 0", 2);
        fault("1>1=1 0,1", 6);
        fault("1;s1 0", 5);
        fault("1>1 0=1,1", 4);
    }

    private static void sheetsAndLanes() {
        says("sheets 0 .. 3: nothing (at first), or a row of a LANE: 0 bytes, 1 shorts, 2 ints, 3 longs, of 0 to 24 items.");
        int[] out = {-1, 4, LOW, HIGH};
        MourningTulips x = polder("0;s1");
        for (int s = 0; s < 4; s++) {
            due("nothing at first", x.drop(s), NULL);
            due("24 items", x.sheet(s, s, 24), 24);
            due("the last", x.item(s, s, 23, 7), 1);
            due("one behind", x.item(s, s, 24, 7), INDEX);
            due("0 items", x.sheet(s, s, 0), 0);
            due("none", x.item(s, s, 0, 7), INDEX);
            due("another lane", x.item(s, 3 - s, 0, 7), CAST);
        }
        for (int o : out) {
            due("sheet " + o, x.sheet(o, 0, 1), BAD);
            due("drop " + o, x.drop(o), BAD);
            due("item " + o, x.item(o, 0, 0, 1), BAD);
            due("copy from " + o, x.copy(o, 0, 0, 0, 0), BAD);
            due("copy to " + o, x.copy(0, 0, o, 0, 0), BAD);
            due("film " + o, x.film(0, 1, o, 0, 0), BAD);
            due("gone " + o, x.gone(0, o, 0, 0, 1, 0), BAD);
            due("whose " + o, x.whose(0, o, 0, 0), BAD);
            due("lane " + o, x.sheet(0, o, 1), BAD);
            due("lane " + o, x.item(0, o, 0, 1), BAD);
            due("lane " + o, x.film(0, 1, 0, o, 0), BAD);
            due("lane " + o, x.gone(0, 0, o, 0, 1, 0), BAD);
            due("lane " + o, x.whose(0, 0, o, 0), BAD);
        }
    }

    // ---- Promises 1 to 9

    private static void promises1to3() {
        says("A polder, no houses.");
        MourningTulips x = new MourningTulips();
        for (int what = 0; what <= 7; what++) {
            due("count(" + what + ")", x.count(what), 0);
        }
        due("of(0, 0)", x.of(0, 0), BAD);
        due("at(0, 0)", x.at(0, 0), BAD);
        due("owes(0, 1)", x.owes(0, 1), BAD);
        due("sell(0, 0)", x.sell(0, 0), BAD);
        due("lend(0, 1, 1)", x.lend(0, 1, 1), BAD);
        due("pay(0, 1, 1)", x.pay(0, 1, 1), BAD);
        due("price(0, 0)", x.price(0, 0), BAD);
        due("goods(0, 0)", x.goods(0, 0), BAD);
        due("falls(0)", x.falls(0), BAD);
        due("sells(0, 0)", x.sells(0, 0), BAD);
        due("gift(0)", x.gift(0), BAD);
        due("easter(0, 0, 0)", x.easter(0, 0, 0), BAD);
        due("whose(0, 0, 0, 0)", x.whose(0, 0, 0, 0), BAD);
        due("gone(0, ..)", x.gone(0, 0, 0, 0, 1, 0), BAD);
        due("film(0, ..)", x.film(0, 1, 0, 0, 0), BAD);
        due("then(60)", x.then(60), 0);
        due("years(40)", x.years(40), 0);
        due("undo", x.undo(), 7);
        due("read of nothing", x.read(), -20);
        says("A HOUSE: its number. BAD; FULL: 5.");
        int[] out = {-1, 1000, LOW, HIGH};
        x = new MourningTulips();
        for (int cash : out) {
            due("house(" + cash + ")", x.house(cash), BAD);
        }
        due("house(0)", x.house(0), 0);
        due("house(999)", x.house(999), 1);
        due("a third", x.house(1), 2);
        due("a fourth", x.house(1), 3);
        due("a fifth", x.house(1), 4);
        due("a sixth", x.house(1), FULL);
        due("a bad sixth", x.house(-1), BAD);
        due("five told by a text", polder("1,2,3,4,5").house(1), FULL);
        due("four told by a text", polder("1,2,3,4").house(1), 4);
        says("A BULB: its number. BAD (no such HOUSE, too); FULL: 7.");
        x = houses(0, 0, 0, 0);
        int[] outOfKind = {-1, 5, LOW, HIGH};
        int[] outOfPrice = {0, 100, -1, LOW, HIGH};
        int[] outOfHouse = {-1, 4, LOW, HIGH};
        for (int round = 0; round < 2; round++) {
            for (int kind : outOfKind) {
                due("kind " + kind, x.bulb(kind, 1, 0), BAD);
            }
            for (int price : outOfPrice) {
                due("price " + price, x.bulb(0, price, 0), BAD);
            }
            for (int house : outOfHouse) {
                due("house " + house, x.bulb(0, 1, house), BAD);
            }
            for (int b = 0; b < 7 && round == 0; b++) {
                due("bulb " + b, x.bulb(4, 99, 3), b);
            }
        }
        due("an eighth", x.bulb(0, 1, 0), FULL);
        due("seven told by a text", polder("1;s1,s1,s1,s1,s1,s1,s1").bulb(0, 1, 0), FULL);
        due("six told by a text", polder("1;s1,s1,s1,s1,s1,s1").bulb(0, 1, 0), 6);
    }

    private static void promises4to6() {
        says("Of a HOUSE: 0 CASH, 1 GOODS, 2 what it OWES, 3 what others OWE it (whoever FAILS), 4 BULBS that it holds (a"
            + " set), 5 whether it FAILS (1, 0). BAD.");
        MourningTulips x = polder("99>1=99>2=99>3=99>4=99,9,9,9,9>0=10;s1,s2,s3,s4,s5,s6,s7");
        int[] first = {99, 127, 396, 10, 127, 1};
        int[] last = {9, 9, 10, 99, 0, 1};
        for (int what = 0; what <= 5; what++) {
            due("of(0, " + what + ")", x.of(0, what), first[what]);
            due("of(4, " + what + ")", x.of(4, what), last[what]);
        }
        due("1 stands", x.of(1, 5), 0);
        due("1 is owed, though 0 fails", x.of(1, 3), 99);
        x = polder("0>4=99,0>4=99,0>4=99,0>4=99,0");
        due("the most owed", x.of(4, 3), 396);
        int[] out = {-1, 6, LOW, HIGH};
        for (int o : out) {
            due("of(0, " + o + ")", x.of(0, o), BAD);
            due("of(" + (o == 6 ? 5 : o) + ", 0)", x.of(o == 6 ? 5 : o, 0), BAD);
        }
        says("Of a BULB: 0 KIND, 1 PRICE, 2 who holds it, 3 what it is worth behind this YEAR. BAD.");
        x = polder("0,0,0,0,0;s1,k99@4");
        int[] told = {0, 1, 0, 1};
        int[] other = {4, 99, 4, 49};
        for (int what = 0; what <= 3; what++) {
            due("at(0, " + what + ")", x.at(0, what), told[what]);
            due("at(1, " + what + ")", x.at(1, what), other[what]);
        }
        int[] outOfAt = {-1, 4, LOW, HIGH};
        for (int o : outOfAt) {
            due("at(0, " + o + ")", x.at(0, o), BAD);
            due("at(" + (o == 4 ? 2 : o) + ", 0)", x.at(o == 4 ? 2 : o, 0), BAD);
        }
        says("How much a HOUSE OWES another one. BAD: alike numbers, too.");
        x = polder("0>1=1,0>0=99,0");
        due("1", x.owes(0, 1), 1);
        due("99", x.owes(1, 0), 99);
        due("nothing", x.owes(2, 0), 0);
        int[] outOfHouse = {-1, 3, 5, LOW, HIGH};
        for (int o : outOfHouse) {
            due("owes(0, " + o + ")", x.owes(0, o), BAD);
            due("owes(" + o + ", 0)", x.owes(o, 0), BAD);
            due("owes(" + o + ", " + o + ")", x.owes(o, o), BAD);
        }
        for (int h = 0; h < 3; h++) {
            due("owes(" + h + ", " + h + ")", x.owes(h, h), BAD);
        }
    }

    private static void promises7to9() {
        says("One letter more behind THE TAPE: how many it has. BAD: not 32 .. 126; FULL: 100.");
        MourningTulips x = new MourningTulips();
        int[] out = {31, 127, -1, 0, 256 + 49, 65536 + 49, LOW, HIGH};
        for (int letter : out) {
            due("type(" + letter + ")", x.type(letter), BAD);
        }
        for (int letter = 32; letter <= 126; letter++) {
            due("type(" + letter + ")", x.type(letter), letter - 31);
        }
        for (int k = 96; k <= 100; k++) {
            due("letter " + k, x.type(32), k);
        }
        due("a letter too many", x.type(32), FULL);
        due("a bad letter too many", x.type(31), BAD);
        due("the fault", x.read(), -21);
        due("the first letter again", x.type(32), 1);
        says("THE TAPE, which is empty then, is a POLDER: how many HOUSES. A FAULT (all else stays).");
        x = make(EdgesTest::standing);
        due("the tape is a fault", x.read(), -29);
        alike("all else stays", x, make(y -> standing(y, "")), false);
        x = make(y -> standing(y, ""));
        due("an empty tape", x.read(), -20);
        alike("all else stays", x, make(y -> standing(y, "")), false);
        x = polder("1,2");
        due("empty then", x.type('3'), 1);
        due("how many", x.read(), 1);
        due("empty then", x.read(), -20);
        due("of the latest", x.of(0, 0), 3);
        says("0 HOUSES, 1 BULBS, 2 the YEAR, 3 who FAILS (a set), 4 CASH of all together, 5 PRICES of all together, 6 what all"
            + " OWE together, 7 what may be UNDONE. BAD.");
        x = houses(500, 500, 500, 500, 500);
        for (int h = 0; h < 5; h++) {
            for (int o = 0; o < 5; o++) {
                due("lend(" + h + ", " + o + ", 99)", x.lend(h, o, 99), h == o ? BAD : 99);
            }
        }
        for (int b = 0; b < 7; b++) {
            x.bulb(STEADY, 99, b % 5);
        }
        x.years(40);
        int[] most = {5, 7, 40, 0, 2500, 693, 1980, 8};
        for (int what = 0; what <= 7; what++) {
            due("count(" + what + ")", x.count(what), most[what]);
        }
        due("cash, the most", houses(999, 999, 999, 999, 999).count(4), 4995);
        due("all fail but the last", polder("0>4=1,0>4=1,0>4=1,0>4=1,0").count(3), 15);
        int[] outOfCount = {-1, 8, LOW, HIGH};
        for (int what : outOfCount) {
            due("count(" + what + ")", x.count(what), BAD);
        }
    }

    // ---- Promises 10 to 16

    private static void promise10and14() {
        int[] out = {0, -1, 41, LOW, HIGH};
        says("n YEARS (1 .. 40; each by itself may be UNDONE): who FAILS then (a set). BAD; FULL: the YEAR would be above"
            + " 9999.");
        MourningTulips x = polder("0>1=20,0;b40");
        for (int n : out) {
            due("years(" + n + ")", x.years(n), BAD);
        }
        due("years(1)", x.years(1), 0);
        due("who fails then", x.years(3), 1);
        due("each by itself", x.count(7), 4);
        due("undo", x.undo(), 3);
        due("the year", x.count(2), 3);
        due("years(40)", x.years(40), 1);
        due("the year", x.count(2), 43);
        due("eight of them", x.count(7), 8);
        x = make(EdgesTest::lastYear);
        due("the year", x.count(2), 9999);
        due("years(1)", x.years(1), FULL);
        due("years(40)", x.years(40), FULL);
        due("undo", x.undo(), 7);
        due("two are too many", x.years(2), FULL);
        due("one is well", x.years(1), 0);
        due("the year", x.count(2), 9999);
        due("a price behind it is told", x.at(0, 3) > 0 ? 1 : 0, 1);
        due("60 years behind it are told", x.then(60), 0);
        says("A DRIFT of n YEARS (1 .. 40; each with its CASH one that may be UNDONE): who FAILS then (a set). BAD; FULL:"
            + " likewise.");
        x = polder("0>1=99,0;b40");
        for (int n : out) {
            due("drift(" + n + ")", x.drift(n), BAD);
        }
        due("refused ones draw nothing", x.seed(1), 1);
        due("who fails then", x.drift(4), 1);
        due("the year", x.count(2), 4);
        int cash = x.count(4);
        due("each is one", x.count(7), 4);
        due("drift(1)", x.drift(1), 1);
        due("its cash", x.count(4), cash + drawn(1, 5) / 128 % 9);
        due("with its cash", x.undo(), 4);
        due("with its cash", x.count(4), cash);
        due("and the draw", x.seed(1), drawn(1, 4));
        for (int k = 3; k >= 0; k--) {
            due("undo", x.undo(), k);
        }
        due("no cash", x.count(4), 0);
        due("drift(40)", x.drift(40), 1);
        due("the year", x.count(2), 40);
        due("eight of them", x.count(7), 8);
        x = make(EdgesTest::lastYear);
        due("drift(1)", x.drift(1), FULL);
        due("a refused one draws nothing", x.seed(1), 1);
        due("undo", x.undo(), 7);
        due("two are too many", x.drift(2), FULL);
        due("one is well", x.drift(1), 0);
        due("the year", x.count(2), 9999);
    }

    private static void promise11() {
        says("SOLD to a HOUSE: for how much. BAD; NOT: it holds it, has not so much CASH, who sells would have above 999.");
        MourningTulips x = houses(998, 5, 4, 999);
        x.bulb(STEADY, 5, 2);
        x.bulb(STEADY, 1, 0);
        x.bulb(STEADY, 2, 0);
        int[] outOfBulb = {-1, 3, 7, LOW, HIGH};
        int[] outOfHouse = {-1, 4, 5, LOW, HIGH};
        for (int b : outOfBulb) {
            due("bulb " + b, x.sell(b, 0), BAD);
        }
        for (int h : outOfHouse) {
            due("house " + h, x.sell(0, h), BAD);
        }
        due("it holds it", x.sell(0, 2), NOT);
        due("who sells would have 1000", x.sell(2, 1), NOT);
        due("who sells has 999", x.sell(1, 1), 1);
        due("cash", x.of(0, 0), 999);
        due("who sells would have 1000", x.sell(2, 3), NOT);
        due("has not so much cash", x.sell(0, 1), NOT);
        due("has so much", x.sell(2, 0), NOT);
        x = houses(5, 4, 9);
        x.bulb(STEADY, 5, 2);
        due("1 less", x.sell(0, 1), NOT);
        due("so much", x.sell(0, 0), 5);
        due("nothing left", x.of(0, 0), 0);
        due("one to be undone", x.count(7), 1);
        due("the price of 99", polder("99,0;s99@1").sell(0, 0), 99);
    }

    private static void promise12() {
        says("LENT n (1 .. 99) by a HOUSE to another one: what that OWES it then. BAD: alike numbers, too; NOT: it has not so"
            + " much CASH, the other one would OWE it above 99, have above 999.");
        MourningTulips x = houses(99, 998, 999, 400);
        int[] outOfSum = {0, -1, 100, LOW, HIGH};
        int[] outOfHouse = {-1, 4, LOW, HIGH};
        for (int n : outOfSum) {
            due("n " + n, x.lend(0, 1, n), BAD);
        }
        for (int h : outOfHouse) {
            due("by " + h, x.lend(h, 0, 1), BAD);
            due("to " + h, x.lend(0, h, 1), BAD);
        }
        due("alike", x.lend(0, 0, 1), BAD);
        due("would have 1000", x.lend(0, 1, 2), NOT);
        due("has 999", x.lend(0, 1, 1), 1);
        due("would have 1000", x.lend(0, 1, 1), NOT);
        due("has 98", x.lend(0, 3, 99), NOT);
        due("all of it", x.lend(0, 3, 98), 98);
        due("nothing left", x.lend(0, 3, 1), NOT);
        due("99", x.lend(1, 3, 99), 99);
        due("above 99", x.lend(1, 3, 1), NOT);
        due("to another one", x.lend(2, 3, 99), 99);
        due("what 3 owes", x.of(3, 2), 98 + 99 + 99);
        due("the other way", x.lend(3, 1, 50), 50);
        due("both owe", x.owes(3, 1), 99);
        due("each is one to be undone", x.count(7), 5);
    }

    private static void promise13() {
        says("PAID n (1 .. 99) by a HOUSE to another one: what it OWES it then. BAD: alike numbers, too; NOT: it OWES it less,"
            + " has not so much CASH, the other one would have above 999.");
        MourningTulips x = polder("50>1=60>2=99,0,0>0=5");
        int[] outOfSum = {0, -1, 100, LOW, HIGH};
        int[] outOfHouse = {-1, 3, LOW, HIGH};
        for (int n : outOfSum) {
            due("n " + n, x.pay(0, 1, n), BAD);
        }
        for (int h : outOfHouse) {
            due("by " + h, x.pay(h, 0, 1), BAD);
            due("to " + h, x.pay(0, h, 1), BAD);
        }
        due("alike", x.pay(0, 0, 1), BAD);
        due("has 50", x.pay(0, 1, 51), NOT);
        due("owes nothing", x.pay(1, 0, 1), NOT);
        due("has nothing", x.pay(2, 0, 1), NOT);
        due("all it has", x.pay(0, 1, 50), 10);
        due("nothing left", x.pay(0, 1, 1), NOT);
        due("refused ones are none to be undone", x.count(7), 1);
        x = polder("99>1=50,0");
        due("owes 50", x.pay(0, 1, 51), NOT);
        due("owes 50", x.pay(0, 1, 50), 0);
        due("owes nothing", x.pay(0, 1, 1), NOT);
        due("99", polder("99>1=99,0").pay(0, 1, 99), 0);
        x = houses(3, 999);
        x.bulb(STEADY, 2, 1);
        x.lend(1, 0, 3);
        x.sell(0, 0);
        due("cash", x.of(1, 0), 998);
        due("would have 1000", x.pay(0, 1, 2), NOT);
        due("has 999", x.pay(0, 1, 1), 2);
        due("would have 1000", x.pay(0, 1, 1), NOT);
    }

    private static void promises15and16() {
        says("UNDONE: how many more may be. NONE: none is known.");
        MourningTulips x = polder("9,9");
        due("none", x.undo(), NONE);
        x.years(1);
        due("one", x.undo(), 0);
        due("none", x.undo(), NONE);
        x.years(40);
        due("eight", x.undo(), 7);
        x.years(1);
        due("eight again", x.count(7), 8);
        for (int k = 7; k >= 0; k--) {
            due("undo", x.undo(), k);
        }
        due("none", x.undo(), NONE);
        due("the year", x.count(2), 32);
        says("THE DRAW becomes v: what it was. BAD: below 0.");
        x = new MourningTulips();
        due("1 at first", x.seed(0), 1);
        due("-1", x.seed(-1), BAD);
        due("LOW", x.seed(LOW), BAD);
        due("0", x.seed(HIGH), 0);
        due("HIGH", x.seed(1), HIGH);
        due("nothing to be undone", x.count(7), 0);
    }

    // ---- Promises 17 to 26

    private static void promises17to21() {
        int[] outOfBulb = {-1, 2, 7, LOW, HIGH};
        int[] outOfHouse = {-1, 2, 5, LOW, HIGH};
        MourningTulips x = polder("3>1=9,0;r1,m99@1");
        says("The PRICE of a BULB behind n YEARS. BAD.");
        for (int b : outOfBulb) {
            due("price(" + b + ", 0)", x.price(b, 0), BAD);
        }
        due("price(0, -1)", x.price(0, -1), BAD);
        due("price(0, 61)", x.price(0, 61), BAD);
        due("price(0, 0)", x.price(0, 0), 1);
        due("price(0, 28)", x.price(0, 28), 93);
        due("price(0, 29)", x.price(0, 29), 99);
        due("price(0, 60)", x.price(0, 60), 99);
        due("price(1, 1)", x.price(1, 1), 1);
        says("Who FAILS behind n YEARS (a set). BAD.");
        due("then(-1)", x.then(-1), BAD);
        due("then(61)", x.then(61), BAD);
        due("then(0)", x.then(0), 1);
        due("then(4): 3 and 5", x.then(4), 1);
        due("then(5): 3 and 6", x.then(5), 0);
        due("then(60)", x.then(60), 0);
        says("GOODS of a HOUSE behind n YEARS. BAD.");
        for (int h : outOfHouse) {
            due("goods(" + h + ", 0)", x.goods(h, 0), BAD);
        }
        due("goods(0, -1)", x.goods(0, -1), BAD);
        due("goods(0, 61)", x.goods(0, 61), BAD);
        due("goods(0, 0)", x.goods(0, 0), 4);
        due("goods(0, 60)", x.goods(0, 60), 102);
        due("goods(1, 0)", x.goods(1, 0), 99);
        due("goods(1, 1)", x.goods(1, 1), 1);
        says("FALLS; NONE. BAD.");
        for (int h : outOfHouse) {
            due("falls(" + h + ")", x.falls(h), BAD);
        }
        due("falls(0)", x.falls(0), 0);
        due("falls(1)", x.falls(1), NONE);
        says("ALONE (a set).");
        due("alone()", x.alone(), 1);
        due("all five but one", polder("0>1=1,0>2=2,0>3=3,0>4=4,0").alone(), 15);
        due("nobody", polder("0,0,0,0,0").alone(), 0);
    }

    private static void promises22to25() {
        int[] out = {-1, 2, LOW, HIGH};
        MourningTulips x = polder("3>1=9,0;r1,m99@1");
        says("SELL: behind how many (what 0), how great (1). BAD.");
        for (int o : out) {
            due("sells(" + o + ", 0)", x.sells(o, 0), BAD);
            due("sells(0, " + o + ")", x.sells(0, o), BAD);
        }
        due("sells(0, 0)", x.sells(0, 0), 29);
        due("sells(0, 1)", x.sells(0, 1), 99);
        due("sells(1, 0)", x.sells(1, 0), 0);
        due("sells(1, 1)", x.sells(1, 1), 99);
        says("GIFT; NONE. BAD.");
        for (int o : out) {
            due("gift(" + o + ")", x.gift(o), BAD);
        }
        due("gift(0)", x.gift(0), 5);
        due("gift(1)", x.gift(1), NONE);
        says("FORGIVE: which (what 0), how many FAIL (1); NONE. BAD.");
        for (int o : out) {
            due("forgive(" + o + ")", x.forgive(o), BAD);
        }
        due("forgive(0)", x.forgive(0), 1);
        due("forgive(1)", x.forgive(1), 0);
        due("nobody owes", polder("0").forgive(0), NONE);
        due("nobody owes", polder("0").forgive(1), NONE);
        says("SETTLE: how many (what 0), SUM (1), RING (2; a set). BAD.");
        for (int o : out) {
            due("settle(" + (o == 2 ? 3 : o) + ")", x.settle(o == 2 ? 3 : o), BAD);
        }
        due("settle(0)", x.settle(0), 1);
        due("settle(1)", x.settle(1), 9);
        due("settle(2)", x.settle(2), 0);
    }

    private static void promise26() {
        says("EASTER: above (what 0), below (1). BAD.");
        MourningTulips x = polder("0>1=9,0;s10");
        int[] outOfHouse = {-1, 2, 5, LOW, HIGH};
        int[] outOfChance = {-1, 11, LOW, HIGH};
        int[] outOfWhat = {-1, 2, LOW, HIGH};
        for (int o : outOfHouse) {
            due("house " + o, x.easter(o, 5, 0), BAD);
        }
        for (int o : outOfChance) {
            due("c " + o, x.easter(0, o, 0), BAD);
        }
        for (int o : outOfWhat) {
            due("what " + o, x.easter(0, 5, o), BAD);
        }
        due("above", x.easter(0, 2, 0), 1);
        due("below", x.easter(0, 2, 1), 5);
        due("never: 0 by 1", x.easter(1, 2, 0), 0);
        due("never: 0 by 1", x.easter(1, 2, 1), 1);
    }

    // ---- Promises 27 and 28

    private static void promises27and28() {
        says("All but SHEETS, THE TAPE is kept as an IMAGE: 1.");
        MourningTulips x = make(EdgesTest::standing);
        due("image", x.image(), 1);
        MourningTulips twin = make(EdgesTest::standing);
        twin.image();
        x.read();
        read(x, "1");
        x.house(9);
        x.years(3);
        x.seed(8);
        due("restore", x.restore(), 1);
        twin.read();
        alike("all is as it was then, the tape is not", x, twin, false);
        x = make(EdgesTest::standing);
        x.image();
        due("a letter more", x.type('1'), 10);
        x.sheet(0, 1, 2);
        x.drop(1);
        due("restore", x.restore(), 1);
        due("the tape is as it is", x.type('1'), 11);
        due("sheets are as they are", x.drop(0), 2);
        due("sheets are as they are", x.drop(1), NULL);
        says("All is as it was then: 1. NONE: there is none.");
        x = new MourningTulips();
        due("none", x.restore(), NONE);
        due("an image of nothing", x.image(), 1);
        due("a house", x.house(9), 0);
        x.drift(3);
        due("restore", x.restore(), 1);
        due("no house", x.count(0), 0);
        due("nothing to be undone", x.undo(), NONE);
        due("the draw", x.seed(1), 1);
        due("a house", x.house(8), 0);
        due("its cash", x.of(0, 0), 8);
        due("restore again", x.restore(), 1);
        due("no house", x.count(0), 0);
        due("nothing is undone by an image", polder("1").undo(), NONE);
        x = polder("50,50;r10");
        x.years(8);
        x.image();
        x.years(8);
        x.restore();
        for (int k = 7; k >= 0; k--) {
            due("undo", x.undo(), k);
            due("the year", x.count(2), k);
        }
        x.restore();
        x.lend(0, 1, 5);
        x.image();
        x.undo();
        due("a later image", x.restore(), 1);
        due("a later image", x.owes(1, 0), 5);
    }

    // ---- Promises 29 to 35

    private static void promise29() {
        says("TRUE by as many items as there are HOUSES of a SHEET taken as a row of a LANE, from item i on: how many ways"
            + " (house -1), BULBS of a HOUSE in all (a set). BAD (no such HOUSE, below -1); NULL; CAST; INDEX.");
        for (int lane = 0; lane < 4; lane++) {
            MourningTulips x = polder("0,0;s1,s2");
            due("NULL", x.whose(-1, lane, lane, 0), NULL);
            row(x, lane, lane, 1, 2, 1, 3, 0);
            due("1 2", x.whose(-1, lane, lane, 0), 1);
            due("2 1: of 0", x.whose(0, lane, lane, 1), 2);
            due("2 1: of 1", x.whose(1, lane, lane, 1), 1);
            due("3 0, the last: of 0", x.whose(0, lane, lane, 3), 3);
            due("3 0, the last: of 1", x.whose(1, lane, lane, 3), 0);
            due("one behind", x.whose(-1, lane, lane, 4), INDEX);
            due("one ahead", x.whose(-1, lane, lane, -1), INDEX);
            due("HIGH", x.whose(-1, lane, lane, HIGH), INDEX);
            due("HIGH - 1", x.whose(-1, lane, lane, HIGH - 1), INDEX);
            due("LOW", x.whose(-1, lane, lane, LOW), INDEX);
            due("CAST", x.whose(-1, lane, 3 - lane, 0), CAST);
            due("house 2", x.whose(2, lane, lane, 0), BAD);
            due("house -2", x.whose(-2, lane, lane, 0), BAD);
            due("house HIGH", x.whose(HIGH, lane, lane, 0), BAD);
            due("house LOW", x.whose(LOW, lane, lane, 0), BAD);
        }
        MourningTulips x = polder("0,0,0;s1");
        row(x, 0, 0, 1, 0);
        due("shorter than there are houses", x.whose(-1, 0, 0, 0), INDEX);
        x = new MourningTulips();
        row(x, 0, 0, 1, 0);
        due("no houses", x.whose(-1, 0, 0, 0), 1);
        due("no houses, at the end", x.whose(-1, 0, 0, 2), 1);
        due("no houses, behind the end", x.whose(-1, 0, 0, 3), INDEX);
        due("no houses, ahead", x.whose(-1, 0, 0, -1), INDEX);
        due("no such house", x.whose(0, 0, 0, 0), BAD);
    }

    private static void promise30() {
        says("GONE of a BULB by n items likewise: KINDS (what 0), how many PRICES (1), the least (2; NONE). BAD; NULL; CAST;"
            + " INDEX.");
        for (int lane = 0; lane < 4; lane++) {
            MourningTulips x = polder("0;s9,r9");
            due("NULL", x.gone(0, lane, lane, 0, 1, 0), NULL);
            row(x, lane, lane, 9, 10, 9, 9, 9, 9, 9, 9, 9, 9);
            due("STEADY", x.gone(0, lane, lane, 0, 1, 0), 1);
            due("RISING", x.gone(1, lane, lane, 1, 1, 0), 2);
            due("one", x.gone(0, lane, lane, 2, 8, 1), 1);
            due("9", x.gone(0, lane, lane, 2, 8, 2), 9);
            due("none", x.gone(0, lane, lane, 0, 2, 2), NONE);
            due("none", x.gone(0, lane, lane, 0, 2, 1), 0);
            due("one behind", x.gone(0, lane, lane, 3, 8, 0), INDEX);
            due("behind the end", x.gone(0, lane, lane, 10, 1, 0), INDEX);
            due("one ahead", x.gone(0, lane, lane, -1, 1, 0), INDEX);
            due("HIGH", x.gone(0, lane, lane, HIGH, 8, 0), INDEX);
            due("HIGH - 7", x.gone(0, lane, lane, HIGH - 7, 8, 0), INDEX);
            due("LOW", x.gone(0, lane, lane, LOW, 8, 0), INDEX);
            due("CAST", x.gone(0, lane, 3 - lane, 0, 1, 0), CAST);
            int[] outOfBulb = {-1, 2, LOW, HIGH};
            int[] outOfMany = {0, -1, 9, LOW, HIGH};
            int[] outOfWhat = {-1, 3, LOW, HIGH};
            for (int o : outOfBulb) {
                due("bulb " + o, x.gone(o, lane, lane, 0, 1, 0), BAD);
            }
            for (int o : outOfMany) {
                due("n " + o, x.gone(0, lane, lane, 0, o, 0), BAD);
            }
            for (int o : outOfWhat) {
                due("what " + o, x.gone(0, lane, lane, 0, 1, o), BAD);
            }
        }
        MourningTulips x = polder("0;s9,k2");
        x.years(3);
        x.bulb(BLACK, 50, 0);
        row(x, 0, 0, 6, 6, 11, 5, 5, 10);
        due("BLACK in year 3: 1, 2, 3", x.gone(2, 0, 0, 0, 1, 1), 3);
        due("BLACK in year 3: 1", x.gone(2, 0, 0, 0, 3, 2), 1);
        due("BLACK in year 3 is never 5", x.gone(2, 0, 0, 3, 1, 2), NONE);
    }

    private static void promise31() {
        says("The PRICE of a BULB behind 1, 2, .. n YEARS (1 .. 24), an item each, comes to a SHEET likewise: n. BAD; NULL;"
            + " CAST; INDEX.");
        for (int lane = 0; lane < 4; lane++) {
            MourningTulips x = polder("0;s9,r1,k2");
            due("NULL", x.film(1, 1, lane, lane, 0), NULL);
            row(x, lane, lane, new long[24]);
            due("24", x.film(1, 24, lane, lane, 0), 24);
            items(x, lane, lane, 2, 3, 4, 5, 6, 7, 8, 9, 10, 12, 14, 16, 18, 20, 23, 26, 29, 32, 36, 40, 45, 50, 56, 62);
            due("one, at the end", x.film(1, 1, lane, lane, 23), 1);
            due("three, from the first", x.film(2, 3, lane, lane, 0), 3);
            due("one behind", x.film(1, 24, lane, lane, 1), INDEX);
            due("behind the end", x.film(1, 1, lane, lane, 24), INDEX);
            due("one ahead", x.film(1, 1, lane, lane, -1), INDEX);
            due("HIGH", x.film(1, 24, lane, lane, HIGH), INDEX);
            due("HIGH - 23", x.film(1, 24, lane, lane, HIGH - 23), INDEX);
            due("LOW", x.film(1, 24, lane, lane, LOW), INDEX);
            due("CAST", x.film(1, 1, lane, 3 - lane, 0), CAST);
            items(x, lane, lane, 1, 6, 6, 5, 6, 7, 8, 9, 10, 12, 14, 16, 18, 20, 23, 26, 29, 32, 36, 40, 45, 50, 56, 2);
            int[] outOfBulb = {-1, 3, LOW, HIGH};
            int[] outOfMany = {0, -1, 25, LOW, HIGH};
            for (int o : outOfBulb) {
                due("bulb " + o, x.film(o, 1, lane, lane, 0), BAD);
            }
            for (int o : outOfMany) {
                due("n " + o, x.film(0, o, lane, lane, 0), BAD);
            }
            due("nothing else is changed", x.count(2) + x.count(7) + x.count(5), 12);
        }
        MourningTulips x = polder("0;s9,k99");
        x.years(1);
        row(x, 0, 0, 50, 50, 50, 50);
        due("from year 1", x.film(1, 3, 0, 0, 1), 3);
        items(x, 0, 0, 50, 54, 54, 32);
    }

    private static void promises32and33() {
        says("A SHEET holds a new row of a LANE: n. BAD: also n above 24; SIZE: n below 0.");
        MourningTulips x = polder("0;s1");
        due("24", x.sheet(0, 0, 24), 24);
        due("25", x.sheet(0, 0, 25), BAD);
        due("HIGH", x.sheet(0, 0, HIGH), BAD);
        due("0", x.sheet(1, 0, 0), 0);
        due("-1", x.sheet(1, 0, -1), SIZE);
        due("LOW", x.sheet(1, 0, LOW), SIZE);
        due("still 24", x.drop(0), 24);
        due("still 0", x.drop(1), 0);
        for (int lane = 0; lane < 4; lane++) {
            row(x, 2, lane, 5, 6, 7);
            due("longer", x.sheet(2, lane, 4), 4);
            items(x, 2, lane, NONE, NONE, NONE, NONE);
        }
        MourningTulips noBulbs = houses(1, 1, 1, 1, 1);
        noBulbs.sheet(2, 0, 5);
        due("new items are 0, as much as no bulbs", noBulbs.whose(-1, 2, 0, 0), 1);
        row(x, 2, 3, 8, 8, 8, 8);
        due("dropped", x.drop(2), 4);
        due("new again", x.sheet(2, 3, 2), 2);
        items(x, 2, 3, NONE, NONE);
        row(x, 2, 3, 8, 8);
        due("of another lane", x.sheet(2, 0, 2), 2);
        items(x, 2, 0, NONE, NONE);
        due("not of the old one", x.item(2, 3, 0, 1), CAST);
        says("A SHEET holds nothing: how many items it had. BAD; NULL.");
        x = new MourningTulips();
        for (int s = 0; s < 4; s++) {
            due("nothing at first", x.drop(s), NULL);
            x.sheet(s, s, 8 * s);
            due("how many", x.drop(s), 8 * s);
            due("nothing then", x.drop(s), NULL);
            due("nothing then", x.item(s, s, 0, 1), NULL);
        }
        int[] out = {-1, 4, LOW, HIGH};
        for (int s : out) {
            due("drop(" + s + ")", x.drop(s), BAD);
        }
    }

    private static void promise34() {
        says("Item i of a SHEET, taken as a row of a LANE, becomes v, its lowest bits: 1. BAD; NULL; CAST; INDEX.");
        MourningTulips x = polder("0;s99,s99,s2,s1");
        for (int lane = 0; lane < 4; lane++) {
            int bits = 8 << lane;
            due("NULL", x.item(lane, lane, 0, 1), NULL);
            row(x, lane, lane, 7, 7, 7);
            due("the first", x.item(lane, lane, 0, 1), 1);
            due("the last", x.item(lane, lane, 2, 99), 1);
            items(x, lane, lane, 1, 7, 99);
            due("one behind", x.item(lane, lane, 3, 1), INDEX);
            due("one ahead", x.item(lane, lane, -1, 1), INDEX);
            due("HIGH", x.item(lane, lane, HIGH, 1), INDEX);
            due("LOW", x.item(lane, lane, LOW, 1), INDEX);
            due("CAST", x.item(lane, 3 - lane, 0, 1), CAST);
            long round = bits < 64 ? 1L << bits : 0;
            long[] values = {round + 5, 5 - round, 5 + (round << 1), (1L << bits - 1) + 5, -5, Long.MIN_VALUE, Long.MAX_VALUE};
            int[] told = {5, 5, 5, NONE, NONE, NONE, NONE};
            for (int k = 0; k < values.length; k++) {
                due("item becomes " + values[k], x.item(lane, lane, 1, values[k]), 1);
                due(values[k] + " of lane " + lane, itemOf(x, lane, lane, 1), told[k]);
            }
            items(x, lane, lane, 1, NONE, 99);
        }
        // 201 is the price of all: a byte can't be as much, it is below 0 then.
        for (int lane = 0; lane < 4; lane++) {
            x.item(lane, lane, 0, 201);
            due("201 of lane " + lane, x.whose(-1, lane, lane, 0), lane == 0 ? 0 : 1);
            x.item(lane, lane, 0, 201 - (1L << 32));
            due("201 less 2 to 32 of lane " + lane, x.whose(-1, lane, lane, 0), lane == 0 || lane == 3 ? 0 : 1);
        }
    }

    private static void promise35() {
        says("n items of a SHEET from i on come to another one (or the same) from j on, as if all were taken ahead: n. BAD;"
            + " NULL (either); CAST: of unlike LANES; INDEX.");
        for (int lane = 0; lane < 4; lane++) {
            MourningTulips x = polder("0;s1");
            due("NULL, both", x.copy(0, 0, 1, 0, 0), NULL);
            row(x, 0, lane, 1, 2, 3, 4, 5, 6);
            due("NULL, to", x.copy(0, 0, 1, 0, 0), NULL);
            due("NULL, from", x.copy(1, 0, 0, 0, 0), NULL);
            row(x, 1, lane, 11, 12, 13);
            row(x, 2, 3 - lane, 1);
            due("CAST", x.copy(0, 0, 2, 0, 0), CAST);
            due("CAST", x.copy(2, 0, 0, 0, 0), CAST);
            due("all of it", x.copy(1, 0, 0, 3, 3), 3);
            items(x, 0, lane, 1, 2, 3, 11, 12, 13);
            items(x, 1, lane, 11, 12, 13);
            due("none, at the ends", x.copy(0, 6, 1, 3, 0), 0);
            due("over itself, up", x.copy(0, 0, 0, 1, 5), 5);
            items(x, 0, lane, 1, 1, 2, 3, 11, 12);
            due("over itself, down", x.copy(0, 1, 0, 0, 5), 5);
            items(x, 0, lane, 1, 2, 3, 11, 12, 12);
            due("on itself", x.copy(0, 0, 0, 0, 6), 6);
            due("from: one behind", x.copy(0, 4, 1, 0, 3), INDEX);
            due("from: ahead", x.copy(0, -1, 1, 0, 1), INDEX);
            due("from: none, behind the end", x.copy(0, 7, 1, 0, 0), INDEX);
            due("from: none, ahead", x.copy(0, -1, 1, 0, 0), INDEX);
            due("to: one behind", x.copy(0, 0, 1, 1, 3), INDEX);
            due("to: ahead", x.copy(0, 0, 1, -1, 1), INDEX);
            due("to: none, behind the end", x.copy(0, 0, 1, 4, 0), INDEX);
            due("to: none, ahead", x.copy(0, 0, 1, -1, 0), INDEX);
            due("less than none", x.copy(0, 0, 1, 0, -1), INDEX);
            due("LOW", x.copy(0, 0, 1, 0, LOW), INDEX);
            due("HIGH", x.copy(0, 1, 1, 1, HIGH), INDEX);
            due("from HIGH", x.copy(0, HIGH, 1, 0, 1), INDEX);
            due("to HIGH", x.copy(0, 0, 1, HIGH, 1), INDEX);
            due("from LOW", x.copy(0, LOW, 1, 0, 1), INDEX);
            due("to LOW", x.copy(0, 0, 1, LOW, 1), INDEX);
            items(x, 0, lane, 1, 2, 3, 11, 12, 12);
            items(x, 1, lane, 11, 12, 13);
        }
        MourningTulips x = new MourningTulips();
        x.sheet(0, 3, 24);
        x.sheet(1, 3, 24);
        due("24", x.copy(0, 0, 1, 0, 24), 24);
        due("25", x.copy(0, 0, 1, 0, 25), INDEX);
    }

    private static void manyCalls() {
        says("An object is used for at most 512 calls after it has been made;");
        MourningTulips x = new MourningTulips();
        for (int k = 1; k <= 511; k++) {
            due("years(1)", x.years(1), 0);
        }
        due("the 512th call", x.count(2), 511);
    }

    // ---- whether the document says so, and nothing else

    private static void documentIsQuoted() throws IOException {
        if (!Files.isReadable(DOCUMENT)) {
            return;
        }
        String text = Files.readString(DOCUMENT);
        boolean[] quoted = new boolean[text.length()];
        for (String quote : QUOTES) {
            check(mark(text, quote, quoted), "the document does not say: " + quote);
        }
        for (String heading : HEADINGS) {
            mark(text, heading, quoted);
        }
        int place = text.indexOf("## Terms");
        int end = text.indexOf("## Not promised");
        while (place >= 0 && place < end) {
            int next = text.indexOf('\n', place) + 1;
            String line = text.substring(place, next);
            check(line.startsWith("#") || isQuoted(line, place, quoted), "not quoted in full: " + line);
            place = next;
        }
    }

    private static boolean mark(String text, String quote, boolean[] quoted) {
        int place = text.indexOf(quote);
        boolean found = place >= 0;
        for (; place >= 0; place = text.indexOf(quote, place + 1)) {
            for (int k = 0; k < quote.length(); k++) {
                quoted[place + k] = true;
            }
        }
        return found;
    }

    /** Whether each letter of a line, but for its code, stands in a quote. */
    private static boolean isQuoted(String line, int place, boolean[] quoted) {
        boolean code = false;
        for (int k = 0; k < line.length(); k++) {
            char letter = line.charAt(k);
            code ^= letter == '`';
            if (!code && Character.isLetterOrDigit(letter) && !quoted[place + k]) {
                return false;
            }
        }
        return true;
    }

    private static void check(boolean well, String what) {
        if (!well) {
            wrong++;
            System.out.println(what);
        }
    }

    private static void terms() {
        manyCalls();
        answersBelow0();
        machineFinds();
        refusedHousesAndBulbs();
        refusedDeeds();
        refusedByTooMuchCash();
        refusedForetelling();
        refusedSheets();
        setsAndCuts();
        housesAndBulbsAtFirst();
        kinds();
        failing();
        deeds();
        foretold();
        fallsAndAlone();
        sellAndGift();
        forgive();
        settle();
        easter();
        trueShares();
        goneBy();
        undone();
        drifts();
        texts();
        textsOfBulbs();
        textFaults();
        sheetsAndLanes();
    }

    private static void promises() {
        promises1to3();
        promises4to6();
        promises7to9();
        promise10and14();
        promise11();
        promise12();
        promise13();
        promises15and16();
        promises17to21();
        promises22to25();
        promise26();
        promises27and28();
        promise29();
        promise30();
        promise31();
        promises32and33();
        promise34();
        promise35();
    }

    public static void main(String[] args) throws IOException {
        terms();
        promises();
        documentIsQuoted();
        System.out.println(wrong == 0 ? "all edges are as due" : wrong + " edges are not as due");
        if (wrong != 0) {
            System.exit(1);
        }
    }
}
