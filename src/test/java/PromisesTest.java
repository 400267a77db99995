/** For each promise of the document: ordinary inputs, the edges that it names, and wrong inputs. */
public final class PromisesTest {
    private static final int BAD = -1, NOT = -2, FULL = -3, NONE = -4, NULL = -11, CAST = -12, INDEX = -13, SIZE = -14;
    private static final int LOW = Integer.MIN_VALUE, HIGH = Integer.MAX_VALUE;

    private static int wrong = 0;

    private static void due(int promise, String call, long got, long want) {
        if (got != want) {
            wrong++;
            System.out.println("promise " + promise + ": " + call + " answered " + got + ", due is " + want);
        }
    }

    private static int tell(MourningTulips x, String text) {
        for (int k = 0; k < text.length(); k++) {
            due(7, "type of " + text, x.type(text.charAt(k)), k + 1);
        }
        return x.read();
    }

    private static MourningTulips polder(String text) {
        MourningTulips x = new MourningTulips();
        due(8, "read of " + text, tell(x, text) > 0 ? 1 : 0, 1);
        return x;
    }

    private static void row(MourningTulips x, int sheet, int lane, long... items) {
        due(32, "sheet", x.sheet(sheet, lane, items.length), items.length);
        for (int k = 0; k < items.length; k++) {
            due(34, "item", x.item(sheet, lane, k, items[k]), 1);
        }
    }

    private static void newObject() {
        MourningTulips x = new MourningTulips();
        for (int what = 0; what <= 7; what++) {
            due(1, "count(" + what + ")", x.count(what), 0);
        }
        due(1, "of(0, 0)", x.of(0, 0), BAD);
        due(1, "at(0, 0)", x.at(0, 0), BAD);
        due(1, "seed(7)", x.seed(7), 1);
        due(1, "restore()", x.restore(), NONE);
        due(1, "undo()", x.undo(), NONE);
        due(1, "drop(3)", x.drop(3), NULL);
        due(1, "type", x.type('1'), 1);
    }

    private static void house() {
        MourningTulips x = new MourningTulips();
        due(2, "house(-1)", x.house(-1), BAD);
        due(2, "house(1000)", x.house(1000), BAD);
        due(2, "house(0)", x.house(0), 0);
        due(2, "house(999)", x.house(999), 1);
        due(2, "of(1, 0)", x.of(1, 0), 999);
        due(2, "owes(1, 0)", x.owes(1, 0), 0);
        due(2, "years(1)", x.years(1), 0);
        due(2, "house(1000)", x.house(1000), BAD);
        due(2, "a refused one leaves what may be undone", x.count(7), 1);
        due(2, "house(3)", x.house(3), 2);
        due(2, "a new one leaves nothing to be undone", x.count(7), 0);
        due(2, "house(4)", x.house(4), 3);
        due(2, "house(5)", x.house(5), 4);
        due(2, "years(1)", x.years(1), 0);
        due(2, "a sixth", x.house(5), FULL);
        due(2, "a refused one leaves what may be undone", x.count(7), 1);
        due(2, "a bad sixth", x.house(-5), BAD);
        due(2, "count(0)", x.count(0), 5);
    }

    private static void bulb() {
        MourningTulips x = new MourningTulips();
        due(3, "no house", x.bulb(0, 1, 0), BAD);
        x.house(0);
        x.house(0);
        due(3, "kind -1", x.bulb(-1, 1, 0), BAD);
        due(3, "kind 5", x.bulb(5, 1, 0), BAD);
        due(3, "price 0", x.bulb(0, 0, 0), BAD);
        due(3, "price 100", x.bulb(0, 100, 0), BAD);
        due(3, "house -1", x.bulb(0, 1, -1), BAD);
        due(3, "house 2", x.bulb(0, 1, 2), BAD);
        x.years(1);
        due(3, "first", x.bulb(4, 99, 1), 0);
        due(3, "nothing to be undone", x.count(7), 0);
        due(3, "kind", x.at(0, 0), 4);
        due(3, "price", x.at(0, 1), 99);
        due(3, "holder", x.at(0, 2), 1);
        for (int b = 1; b < 7; b++) {
            due(3, "bulb " + b, x.bulb(b % 5, b, 0), b);
        }
        x.years(1);
        due(3, "an eighth", x.bulb(0, 1, 0), FULL);
        due(3, "still to be undone", x.count(7), 1);
        due(3, "a bad eighth", x.bulb(0, 1, 2), BAD);
        due(3, "count(1)", x.count(1), 7);
    }

    private static void ofAndOwes() {
        MourningTulips x = polder("5>1=20,7>2=30,0>1=4;s3,s9@1,s2,s8@2");
        int[][] due = {{5, 10, 20, 0, 5, 1}, {7, 16, 30, 24, 2, 1}, {0, 8, 4, 30, 8, 0}};
        for (int h = 0; h < 3; h++) {
            for (int what = 0; what <= 5; what++) {
                due(4, "of(" + h + ", " + what + ")", x.of(h, what), due[h][what]);
            }
        }
        due(4, "of(3, 0)", x.of(3, 0), BAD);
        due(4, "of(-1, 0)", x.of(-1, 0), BAD);
        due(4, "of(0, -1)", x.of(0, -1), BAD);
        due(4, "of(0, 6)", x.of(0, 6), BAD);
        due(6, "owes(0, 1)", x.owes(0, 1), 20);
        due(6, "owes(1, 0)", x.owes(1, 0), 0);
        due(6, "owes(2, 1)", x.owes(2, 1), 4);
        due(6, "owes(1, 1)", x.owes(1, 1), BAD);
        due(6, "owes(0, 3)", x.owes(0, 3), BAD);
        due(6, "owes(3, 0)", x.owes(3, 0), BAD);
        due(6, "owes(-1, 0)", x.owes(-1, 0), BAD);
        due(6, "owes(0, -1)", x.owes(0, -1), BAD);
    }

    private static void failing() {
        // 0 fails by itself, 1 by 0, 2 by 1; 3 holds enough; 4 owes as much as it has.
        MourningTulips x = polder("1>1=9,2>2=9,3>3=9,4,5>0=5");
        due(4, "a fall in turn", x.count(3), 7);
        due(21, "alone", x.alone(), 1);
        due(4, "of(4, 5)", x.of(4, 5), 0);
        // What is owed to one that fails stays worth what it is.
        x = polder("0>2=9,9>0=8,0");
        due(4, "0 fails though 1 pays", x.count(3), 1);
        // Two that owe one another the same stand, if nobody else wants more.
        x = polder("0>1=50,0>0=50");
        due(4, "a round of debts", x.count(3), 0);
        x = polder("0>1=50>2=1,0>0=50,0");
        due(4, "a round that falls", x.count(3), 3);
        due(21, "alone in a round", x.alone(), 1);
        x = polder("0>1=99,0>2=50,0>3=40,0>4=30,0>0=20");
        due(4, "five, one by one", x.count(3), 31);
        x = polder("0>4=20,0>0=30,0>1=40,0>2=50,0>3=99");
        due(4, "five, one by one, from the last", x.count(3), 31);
    }

    private static void at() {
        MourningTulips x = polder("0,0;s40@1,r40,b41,m40,k41,b1,k97");
        int[] kinds = {0, 1, 2, 3, 4, 2, 4};
        int[] prices = {40, 40, 41, 40, 41, 1, 97};
        int[] next = {40, 45, 20, 50, 20, 1, 48};
        for (int b = 0; b < 7; b++) {
            due(5, "kind of " + b, x.at(b, 0), kinds[b]);
            due(5, "price of " + b, x.at(b, 1), prices[b]);
            due(5, "holder of " + b, x.at(b, 2), b == 0 ? 1 : 0);
            due(5, "next of " + b, x.at(b, 3), next[b]);
        }
        due(5, "at(7, 0)", x.at(7, 0), BAD);
        due(5, "at(-1, 0)", x.at(-1, 0), BAD);
        due(5, "at(0, -1)", x.at(0, -1), BAD);
        due(5, "at(0, 4)", x.at(0, 4), BAD);
    }

    private static void kinds() {
        MourningTulips x = polder("0;s99,r99,r90,m73,m72,m99,k1");
        due(5, "STEADY 99", x.at(0, 3), 99);
        due(5, "RISING 99", x.at(1, 3), 99);
        due(5, "RISING 90", x.at(2, 3), 99);
        due(5, "MANIA 73: 81, 90", x.at(3, 3), 1);
        due(5, "MANIA 72: 80, 89", x.at(4, 3), 89);
        due(5, "MANIA 99", x.at(5, 3), 1);
        due(5, "BLACK 1 in year 0", x.at(6, 3), 1);
        due(5, "BLACK 1: 1, 6, 6, half and 5", x.price(6, 4), 8);
        x = polder("0;k97,b98,k2");
        x.years(1);
        due(5, "BLACK 48 in year 1", x.at(0, 3), 53);
        due(5, "BROKEN 49 in year 1", x.at(1, 3), 49);
        x.years(2);
        due(5, "BLACK in year 3", x.at(0, 3), 31);
        due(5, "BROKEN in year 3", x.at(1, 3), 24);
        x = polder("0;s1");
        x.years(3);
        x.bulb(4, 1, 0);
        x.bulb(4, 97, 0);
        due(5, "BLACK 1 in year 3: 1 at least, and 5", x.at(1, 3), 6);
        x.years(2);
        x.bulb(4, 97, 0);
        due(5, "BLACK 97 in year 5", x.at(3, 3), 99);
    }

    private static void type() {
        MourningTulips x = new MourningTulips();
        due(7, "type(31)", x.type(31), BAD);
        due(7, "type(127)", x.type(127), BAD);
        due(7, "type(LOW)", x.type(LOW), BAD);
        due(7, "type(HIGH)", x.type(HIGH), BAD);
        due(7, "type(32)", x.type(32), 1);
        due(7, "type(126)", x.type(126), 2);
        for (int k = 3; k <= 100; k++) {
            due(7, "type", x.type('0'), k);
        }
        due(7, "one too many", x.type('0'), FULL);
        due(7, "a bad one too many", x.type(10), BAD);
        due(7, "read", x.read(), -21);
        due(7, "empty then", x.type('7'), 1);
        due(7, "read", x.read(), 1);
        due(7, "of(0, 0)", x.of(0, 0), 7);
    }

    private static void readFaults() {
        String[] texts = {
            "", "   ", "x", ",", "100", "1 2", "9>", "9>0", "9>5", "9>x", "9>1", "9>1=", "9>1=0", "9>1=00",
            "9>1=100", "9>1=9", "9>1=9,", "9>1=9>1", "9>12", "9>1 =  9 0", "1,2,3,4,5,6", "1,2,3,4,5,",
            "1;", "1;x", "1;s", "1;s0", "1;s00", "1;s100", "1;s1@", "1;s1@1", "1;s1@01", "1;s1,", "1;s1;",
            "1;s1,s1,s1,s1,s1,s1,s1,s1", "1>2=3,1;s1", "1>2=3,1;s1  ", "1>2=3,1;x", "1,1;S1", "1;s 1 1",
            "1 ;", " 1 x", "1>1=2>0", "1>4=1>3=2>2=3>1=4>", "1>4=1>3=2>2=3>1=4>1", "-1", "1=2", "1@0",
            "9>1=1>1=2,1", "9>1=1", "1;s000", "1,2,3,4,5>5=1"};
        int[] places = {
            0, 3, 0, 0, 2, 2, 2, 2, 2, 2, 3, 4, 4, 4,
            6, 5, 6, 6, 3, 9, 9, 9,
            2, 2, 3, 3, 3, 5, 5, 5, 6, 5, 4,
            22, 10, 12, 8, 4, 6,
            3, 3, 6, 18, 18, 0, 1, 1,
            6, 5, 3, 10};
        for (int k = 0; k < texts.length; k++) {
            MourningTulips x = polder("7,8>0=5;r9@1");
            x.years(1);
            due(8, "read of '" + texts[k] + "'", tell(x, texts[k]), -20 - places[k]);
            due(8, "houses stay", x.count(0), 2);
            due(8, "cash stays", x.count(4), 15);
            due(8, "prices stay", x.count(5), 10);
            due(8, "debts stay", x.owes(1, 0), 5);
            due(8, "the year stays", x.count(2), 1);
            due(8, "what may be undone stays", x.count(7), 1);
            due(8, "the tape is empty", x.type('9'), 1);
        }
    }

    private static void read() {
        MourningTulips x = new MourningTulips();
        for (int k = 0; k < 5; k++) {
            x.house(999);
        }
        x.lend(0, 1, 9);
        x.years(4);
        x.seed(77);
        due(8, "read", tell(x, " 0 7 > 2 = 9 > 1 = 0 1 ,12,99>0=99 ; s 1 , m 99 @ 2,k05@1 "), -23);
        due(8, "read", tell(x, " 07 > 2 = 9 > 1 = 01 ,12,99>0=99 ; s 1 , m 99 @ 2,k05@1 "), 3);
        due(8, "year", x.count(2), 0);
        due(8, "undone", x.count(7), 0);
        due(8, "cash", x.count(4), 118);
        due(8, "debts", x.count(6), 109);
        due(8, "owes", x.owes(0, 2), 9);
        due(8, "owes", x.owes(0, 1), 1);
        due(8, "owes", x.owes(2, 0), 99);
        due(8, "an old debt is gone", x.owes(1, 0), 0);
        due(8, "bulbs", x.count(1), 3);
        due(8, "holder by default", x.at(0, 2), 0);
        due(8, "kind", x.at(1, 0), 3);
        due(8, "holder", x.at(1, 2), 2);
        due(8, "kind", x.at(2, 0), 4);
        due(8, "price", x.at(2, 1), 5);
        due(8, "the draw stays", x.seed(0), 77);
        due(8, "five, seven", tell(x, "1>4=9,2,3,4,5;s1,r2,b3,m4,k5,s6@4,r7"), 5);
        due(8, "bulbs", x.count(1), 7);
        due(8, "one house", tell(x, "0"), 1);
        due(8, "no bulbs", x.count(1), 0);
        due(8, "no debts", x.count(6), 0);
        due(9, "no cash of houses before", x.count(4), 0);
        due(9, "no prices of bulbs before", x.count(5), 0);
    }

    private static void count() {
        MourningTulips x = polder("5>1=20,7>2=30,0>1=4;s3,s9@1,r2,s8@2");
        x.years(2);
        int[] due = {3, 4, 2, 3, 12, 24, 54, 2};
        for (int what = 0; what < due.length; what++) {
            due(9, "count(" + what + ")", x.count(what), due[what]);
        }
        due(9, "count(-1)", x.count(-1), BAD);
        due(9, "count(8)", x.count(8), BAD);
    }

    private static void years() {
        MourningTulips x = polder("0>1=13,0;r10,b40@1");
        due(10, "years(0)", x.years(0), BAD);
        due(10, "years(41)", x.years(41), BAD);
        due(10, "years(-1)", x.years(-1), BAD);
        due(10, "fails at first", x.count(3), 1);
        due(10, "years(1)", x.years(1), 1);
        due(10, "years(1)", x.years(1), 0);
        due(10, "rising", x.at(0, 1), 14);
        due(10, "broken", x.at(1, 1), 20);
        due(10, "each may be undone", x.count(7), 2);
        due(10, "years(40)", x.years(40), 0);
        due(10, "year", x.count(2), 42);
        due(10, "8 are known", x.count(7), 8);
        due(10, "rising", x.at(0, 1), 99);
        for (int k = 0; k < 248; k++) {
            x.years(40);
        }
        due(10, "year", x.count(2), 9962);
        due(10, "above 9999", x.years(38), FULL);
        due(14, "above 9999", x.drift(38), FULL);
        due(10, "years(41)", x.years(41), BAD);
        due(14, "drift(41)", x.drift(41), BAD);
        due(10, "9999", x.years(37), 0);
        due(10, "year", x.count(2), 9999);
        due(10, "above 9999", x.years(1), FULL);
        due(14, "above 9999", x.drift(1), FULL);
        due(18, "foretold beyond", x.then(60), 0);
    }

    private static void sell() {
        MourningTulips x = polder("10,30;s30,s31@0");
        due(11, "no such bulb", x.sell(2, 0), BAD);
        due(11, "bulb -1", x.sell(-1, 0), BAD);
        due(11, "no such house", x.sell(0, 2), BAD);
        due(11, "house -1", x.sell(0, -1), BAD);
        due(11, "its own", x.sell(0, 0), NOT);
        due(11, "not so much cash", x.sell(1, 1), NOT);
        due(11, "refused: nothing to be undone", x.count(7), 0);
        due(11, "sold", x.sell(0, 1), 30);
        due(11, "cash", x.of(0, 0), 40);
        due(11, "cash", x.of(1, 0), 0);
        due(11, "holder", x.at(0, 2), 1);
        due(11, "to be undone", x.count(7), 1);
        x = new MourningTulips();
        x.house(999);
        x.house(5);
        x.house(998);
        x.bulb(0, 1, 0);
        x.bulb(0, 1, 2);
        due(11, "who sells would have above 999", x.sell(0, 1), NOT);
        due(11, "999", x.sell(1, 1), 1);
        due(11, "cash", x.of(2, 0), 999);
    }

    private static void lend() {
        MourningTulips x = polder("60,50,0");
        due(12, "alike", x.lend(1, 1, 5), BAD);
        due(12, "no such", x.lend(0, 3, 5), BAD);
        due(12, "no such", x.lend(3, 0, 5), BAD);
        due(12, "no such", x.lend(-1, 0, 5), BAD);
        due(12, "0", x.lend(0, 1, 0), BAD);
        due(12, "100", x.lend(0, 1, 100), BAD);
        due(12, "not so much", x.lend(0, 1, 61), NOT);
        due(12, "lent", x.lend(0, 1, 60), 60);
        due(12, "owes", x.owes(1, 0), 60);
        due(12, "owes", x.owes(0, 1), 0);
        due(12, "cash", x.of(0, 0), 0);
        due(12, "cash", x.of(1, 0), 110);
        due(12, "lent", x.lend(1, 2, 99), 99);
        due(12, "above 99", x.lend(1, 2, 1), NOT);
        due(12, "lent back", x.lend(2, 0, 50), 50);
        due(12, "above 99", x.lend(0, 1, 40), NOT);
        due(12, "99", x.lend(0, 1, 39), 99);
        due(12, "to be undone", x.count(7), 4);
        x = new MourningTulips();
        x.house(998);
        x.house(9);
        due(12, "above 999", x.lend(1, 0, 2), NOT);
        due(12, "999", x.lend(1, 0, 1), 1);
    }

    private static void pay() {
        MourningTulips x = polder("60>1=70,50>2=3,0");
        due(13, "alike", x.pay(1, 1, 5), BAD);
        due(13, "no such", x.pay(0, 3, 5), BAD);
        due(13, "no such", x.pay(3, 0, 5), BAD);
        due(13, "0", x.pay(0, 1, 0), BAD);
        due(13, "100", x.pay(0, 1, 100), BAD);
        due(13, "not so much cash", x.pay(0, 1, 61), NOT);
        due(13, "owes less", x.pay(1, 2, 4), NOT);
        due(13, "owes nothing", x.pay(1, 0, 1), NOT);
        due(13, "refused: nothing to be undone", x.count(7), 0);
        due(13, "paid", x.pay(0, 1, 60), 10);
        due(13, "cash", x.of(0, 0), 0);
        due(13, "cash", x.of(1, 0), 110);
        due(13, "paid", x.pay(1, 2, 3), 0);
        due(13, "owes", x.owes(1, 2), 0);
        due(13, "to be undone", x.count(7), 2);
        due(13, "99", polder("99>1=99,0").pay(0, 1, 99), 0);
        x = new MourningTulips();
        x.house(990);
        x.house(99);
        x.lend(0, 1, 99);
        x.drift(1);
        x.house(999);
        x.lend(2, 0, 1);
        due(13, "paid", x.pay(0, 2, 1), 0);
        x = new MourningTulips();
        x.house(50);
        x.house(999);
        x.bulb(0, 40, 1);
        x.lend(1, 0, 40);
        x.sell(0, 0);
        due(13, "the other one would have above 999", x.pay(0, 1, 1), NOT);
    }

    private static void drift() {
        MourningTulips x = polder("0,0,0;r10");
        due(14, "drift(0)", x.drift(0), BAD);
        due(14, "drift(41)", x.drift(41), BAD);
        due(14, "refused: the draw stays", x.seed(1), 1);
        due(14, "drift(1)", x.drift(1), 0);
        // 1103527590: by 65536 it is 16838, 2 left over by 3; by 128 it is 8621309, 8 left over by 9.
        due(14, "the draw", x.seed(1103527590), 1103527590);
        due(14, "cash", x.of(16838 % 3, 0), 8621309 % 9);
        due(14, "cash of all", x.count(4), 8621309 % 9);
        due(14, "year", x.count(2), 1);
        due(14, "price", x.at(0, 1), 12);
        due(14, "one to be undone", x.count(7), 1);
        due(14, "undo", x.undo(), 0);
        due(14, "cash undone", x.count(4), 0);
        due(14, "the draw undone", x.seed(5), 1);
        x = new MourningTulips();
        due(14, "no houses", x.drift(2), 0);
        long draw = 1;
        for (int k = 0; k < 2; k++) {
            draw = (draw * 1103515245L + 12345L) & 0x7fffffffL;
        }
        due(14, "the draw goes on", x.seed(1), draw);
        x.house(997);
        due(14, "drift(40)", x.drift(40), 0);
        due(14, "999 at most", x.of(0, 0), 999);
        due(14, "8 to be undone", x.count(7), 8);
        due(14, "the year", x.count(2), 42);
        x = polder("0,0,0,0,0");
        x.seed(987654321);
        draw = 987654321;
        int[] cash = new int[5];
        for (int k = 0; k < 30; k++) {
            due(14, "drift", x.drift(1), 0);
            draw = (draw * 1103515245L + 12345L) & 0x7fffffffL;
            cash[(int) (draw / 65536 % 5)] += draw / 128 % 9;
            for (int h = 0; h < 5; h++) {
                due(14, "cash of " + h + " behind " + (k + 1), x.of(h, 0), cash[h]);
            }
        }
    }

    private static void undo() {
        MourningTulips x = polder("50,50;r10,m20@1");
        x.seed(9);
        x.years(1);
        x.sell(0, 1);
        x.lend(0, 1, 7);
        x.pay(1, 0, 3);
        x.drift(2);
        x.seed(123);
        due(15, "known", x.count(7), 6);
        due(15, "a year of a drift", x.undo(), 5);
        due(15, "year", x.count(2), 2);
        due(15, "a year of a drift", x.undo(), 4);
        due(15, "the draw as ahead, whatever was told since", x.seed(55), 9);
        due(15, "year", x.count(2), 1);
        due(15, "owes", x.owes(1, 0), 4);
        due(15, "a payment", x.undo(), 3);
        due(15, "owes", x.owes(1, 0), 7);
        due(15, "the draw", x.seed(56), 9);
        due(15, "a loan", x.undo(), 2);
        due(15, "owes", x.owes(1, 0), 0);
        due(15, "cash", x.of(0, 0), 62);
        due(15, "a sale", x.undo(), 1);
        due(15, "cash", x.of(0, 0), 50);
        due(15, "holder", x.at(0, 2), 0);
        due(15, "a year", x.undo(), 0);
        due(15, "price", x.at(0, 1), 10);
        due(15, "price", x.at(1, 1), 20);
        due(15, "year", x.count(2), 0);
        due(15, "none", x.undo(), NONE);
        x.years(11);
        for (int k = 7; k >= 0; k--) {
            due(15, "eight are known", x.undo(), k);
        }
        due(15, "older ones are lost", x.undo(), NONE);
        due(15, "year", x.count(2), 3);
    }

    private static void seed() {
        MourningTulips x = new MourningTulips();
        due(16, "seed(-1)", x.seed(-1), BAD);
        due(16, "seed(LOW)", x.seed(LOW), BAD);
        due(16, "1 at first", x.seed(HIGH), 1);
        due(16, "what it was", x.seed(0), HIGH);
        due(16, "what it was", x.seed(3), 0);
        due(16, "not to be undone", x.count(7), 0);
    }

    private static void foretold() {
        MourningTulips x = polder("0>1=13,0>2=13,5;r10,b40@1,k9@2");
        due(17, "price(0, 0)", x.price(0, 0), 10);
        due(17, "price(0, 2)", x.price(0, 2), 14);
        due(17, "price(1, 3)", x.price(1, 3), 20);
        due(17, "price(1, 4)", x.price(1, 4), 10);
        due(17, "price(0, 60)", x.price(0, 60), 99);
        due(17, "price(3, 0)", x.price(3, 0), BAD);
        due(17, "price(-1, 0)", x.price(-1, 0), BAD);
        due(17, "price(0, 61)", x.price(0, 61), BAD);
        due(17, "price(0, -1)", x.price(0, -1), BAD);
        due(18, "then(0)", x.then(0), 1);
        due(18, "then(1)", x.then(1), 1);
        due(18, "then(2)", x.then(2), 0);
        due(18, "then(60)", x.then(60), 0);
        due(18, "then(-1)", x.then(-1), BAD);
        due(18, "then(61)", x.then(61), BAD);
        due(19, "goods(2, 0)", x.goods(2, 0), 14);
        due(19, "goods(2, 2)", x.goods(2, 2), 14);
        due(19, "goods(2, 4)", x.goods(2, 4), 14);
        due(19, "goods(0, 60)", x.goods(0, 60), 99);
        due(19, "goods(3, 0)", x.goods(3, 0), BAD);
        due(19, "goods(0, 61)", x.goods(0, 61), BAD);
        due(19, "goods(0, -1)", x.goods(0, -1), BAD);
        due(19, "nothing is changed", x.count(2) + x.count(5) + x.count(7), 59);
        x.years(1);
        due(17, "from year 1: 20 20 20 10", x.price(1, 2), 20);
        due(17, "from year 1: 20 20 20 10", x.price(1, 3), 10);
        due(17, "from year 1: 4 9 9 9", x.price(2, 1), 9);
        due(17, "from year 1: 4 9 9 9", x.price(2, 3), 9);
    }

    private static void falls() {
        MourningTulips x = polder("0>1=15,0>2=20,0;b40,b9@1,k9@2");
        due(20, "40, 20 behind 1, 10 behind 4", x.falls(0), 4);
        due(20, "9 and 15 for 20, then 4 and 15", x.falls(1), 1);
        due(20, "falls(2)", x.falls(2), NONE);
        due(20, "falls(3)", x.falls(3), BAD);
        due(20, "falls(-1)", x.falls(-1), BAD);
        x.years(1);
        due(20, "from now", x.falls(0), 3);
        due(20, "by what another does", polder("0>1=15,9>2=20,0;b40").falls(1), 4);
        due(20, "fails now", polder("0>1=1,0").falls(0), 0);
        x = polder("0>1=20,0");
        x.years(1);
        x.bulb(4, 38, 0);
        x.bulb(4, 90, 0);
        x.bulb(3, 55, 0);
        due(20, "at last", x.falls(0), 60);
        x = polder("0>1=18,0");
        x.years(1);
        x.bulb(4, 38, 0);
        x.bulb(4, 90, 0);
        x.bulb(3, 55, 0);
        due(20, "never", x.falls(0), NONE);
        due(20, "1 at least", polder("0>1=1,0;b99").falls(0), NONE);
        due(20, "99 49 24 12 6 3 1", polder("0>1=2,0;b99").falls(0), 16);
    }

    private static void alone() {
        due(21, "alone", polder("0>1=5,0>2=3,0>0=1").alone(), 1);
        due(21, "all others pay", polder("0>1=5,0>2=5,0>0=4").alone(), 1);
        due(21, "none", polder("5>1=5,0>2=5,0>0=5").alone(), 0);
    }

    private static void sells() {
        MourningTulips x = polder("0;s40,r10,b40,m20,k90,m88");
        int[] when = {0, 20, 0, 6, 0, 0};
        int[] great = {40, 99, 40, 76, 90, 88};
        for (int b = 0; b < 6; b++) {
            due(22, "when " + b, x.sells(b, 0), when[b]);
            due(22, "how great " + b, x.sells(b, 1), great[b]);
        }
        due(22, "sells(6, 0)", x.sells(6, 0), BAD);
        due(22, "sells(-1, 0)", x.sells(-1, 0), BAD);
        due(22, "sells(0, 2)", x.sells(0, 2), BAD);
        due(22, "sells(0, -1)", x.sells(0, -1), BAD);
        // 94 in year 1 grows to 99 at once, and is halved in year 3.
        x = polder("0;s1");
        x.years(1);
        x.bulb(4, 94, 0);
        due(22, "behind 1", x.sells(1, 0), 1);
        due(22, "99", x.sells(1, 1), 99);
        // 60 65 65 37: not as from year 0, where it is halved at once.
        x.bulb(4, 60, 0);
        due(22, "from year 1", x.sells(2, 1), 65);
        x.years(4);
        x.bulb(4, 60, 0);
        due(22, "from year 5: 60 65 32", x.sells(3, 1), 65);
        due(22, "from year 5: 60 65 32", x.sells(3, 0), 1);
    }

    private static void gift() {
        MourningTulips x = polder("3>1=20,5>2=21,6");
        due(23, "0 lacks 17", x.gift(0), 17);
        due(23, "none to others", x.gift(1), NONE);
        due(23, "none to others", x.gift(2), NONE);
        due(23, "gift(3)", x.gift(3), BAD);
        due(23, "gift(-1)", x.gift(-1), BAD);
        due(23, "nothing is given", x.of(0, 0), 3);
        x = polder("3>1=20,0>2=24,6");
        due(23, "two lack", x.gift(0), NONE);
        due(23, "two lack", x.gift(1), NONE);
        x = polder("3,5");
        due(23, "nobody fails", x.gift(0), 0);
        x = polder("0>1=99>2=99>3=99>4=99,0,0,0,0");
        due(23, "the most", x.gift(0), 396);
        due(23, "with what others owe it", polder("3>1=20,9>0=6").gift(0), 11);
    }

    private static void forgive() {
        MourningTulips x = polder("0>1=5>2=1,0>2=5,0");
        // Both fail; without 5 to 1 0 fails and 1 too; without 1>2 only 0 does.
        due(24, "how many at first", Integer.bitCount(x.count(3)), 2);
        due(24, "which", x.forgive(0), 12);
        due(24, "how many", x.forgive(1), 1);
        due(24, "nothing is changed", x.owes(1, 2), 5);
        due(24, "forgive(2)", x.forgive(2), BAD);
        due(24, "forgive(-1)", x.forgive(-1), BAD);
        x = polder("9,9>2=1>0=1,9>1=1");
        due(24, "of like ones the first", x.forgive(0), 10);
        due(24, "nobody fails", x.forgive(1), 0);
        due(24, "of house 0", polder("0>1=5>2=6,0,9").forgive(0), 1);
        due(24, "of house 0", polder("1>1=1>2=6,0,9").forgive(0), 2);
        due(24, "of five", polder("9,9,9,9>2=1,0>3=7").forgive(0), 43);
        x = polder("9,9");
        due(24, "nobody owes", x.forgive(0), NONE);
        due(24, "nobody owes", x.forgive(1), NONE);
        due(24, "a wrong number", x.forgive(2), BAD);
    }

    private static void settle() {
        MourningTulips x = polder("0>1=5,0,0>3=7,0,0");
        due(25, "two pairs", x.settle(0), 2);
        due(25, "sum", x.settle(1), 12);
        due(25, "no ring", x.settle(2), 0);
        x = polder("0>1=5,0,0>3=7,0>1=2,0");
        due(25, "one group: -5 7 -7 5", x.settle(0), 2);
        x = polder("0>1=5>2=6,0,0>3=7,0,0");
        due(25, "-11 5 -1 7", x.settle(0), 3);
        due(25, "sum", x.settle(1), 12);
        x = polder("0>1=5,0>2=5,0>0=5,0>4=1,0>0=1");
        due(25, "ring", x.settle(2), 7);
        due(25, "-4.. : 0 has 1 more, 3 owes 1", x.settle(0), 1);
        due(25, "sum", x.settle(1), 1);
        x = polder("0>1=5,0>0=2,0>3=1,0>4=1,0>2=1");
        due(25, "two rings", x.settle(2), 31);
        due(25, "0 has nothing to settle", polder("0,0>2=5,0").settle(0), 1);
        due(25, "nobody has", polder("0>1=4,0>2=4,0>0=4").settle(0), 0);
        due(25, "four for five", polder("0>4=1,0>4=2,0>4=3,0>4=4,0").settle(0), 4);
        x = polder("0>4=1,0>2=5,0>1=1,0>1=5,0>3=5");
        due(25, "only those on the round", x.settle(2), 6);
        due(25, "settle(3)", x.settle(3), BAD);
        due(25, "settle(-1)", x.settle(-1), BAD);
        x = new MourningTulips();
        due(25, "no houses", x.settle(0), 0);
        due(25, "one house", polder("1").settle(0), 0);
        due(25, "settle(3)", x.settle(3), BAD);
    }

    private static void easter() {
        MourningTulips x = polder("0>1=16,0;s10,s10,s1@1");
        // Fails if at least one of two is halved: 1 - 0.7 * 0.7.
        due(26, "above", x.easter(0, 3, 0), 51);
        due(26, "below", x.easter(0, 3, 1), 100);
        due(26, "lowest terms", x.easter(0, 5, 0), 3);
        due(26, "lowest terms", x.easter(0, 5, 1), 4);
        due(26, "never", x.easter(0, 0, 0), 0);
        due(26, "never", x.easter(0, 0, 1), 1);
        due(26, "always", x.easter(0, 10, 0), 1);
        due(26, "always", x.easter(0, 10, 1), 1);
        due(26, "another", x.easter(1, 5, 0), 0);
        due(26, "easter(2, 5, 0)", x.easter(2, 5, 0), BAD);
        due(26, "easter(-1, 5, 0)", x.easter(-1, 5, 0), BAD);
        due(26, "easter(0, 11, 0)", x.easter(0, 11, 0), BAD);
        due(26, "easter(0, -1, 0)", x.easter(0, -1, 0), BAD);
        due(26, "easter(0, 5, 2)", x.easter(0, 5, 2), BAD);
        due(26, "easter(0, 5, -1)", x.easter(0, 5, -1), BAD);
        due(26, "nothing is changed", x.count(5), 21);
        x = polder("0>1=15,0>2=9,0;s20,s5@1");
        due(26, "by another's fall", x.easter(1, 1, 0), 1);
        due(26, "by another's fall", x.easter(1, 1, 1), 10);
        due(26, "a bulb of 1 stays 1", polder("0>1=1,0;s1").easter(0, 10, 0), 0);
        x = polder("9>1=9,0;s1,s1,s1,s1,s1,s1,s1@1");
        due(26, "no failing", x.easter(0, 7, 1), 1);
        x = polder("0>1=70,0;s11,s11,s11,s11,s11,s11,s11");
        due(26, "more than one of seven halved", x.easter(0, 1, 0), (10000000 - 4782969 - 7 * 531441) / 16);
        due(26, "below", x.easter(0, 1, 1), 10000000 / 16);
        due(26, "no bulbs", polder("0>1=1,0").easter(0, 3, 1), 1);
        due(26, "no bulbs", polder("0>1=1,0").easter(0, 3, 0), 1);
        x = polder("0>1=17,0;s1");
        due(26, "fails", x.easter(0, 3, 0), 1);
        x.bulb(0, 10, 0);
        x.bulb(0, 10, 0);
        due(26, "as it is now", x.easter(0, 3, 0), 51);
        due(26, "as it is now", x.easter(0, 3, 1), 100);
    }

    private static void image() {
        MourningTulips x = polder("50,50;r10,m20@1");
        due(28, "none", x.restore(), NONE);
        x.lend(0, 1, 8);
        x.years(1);
        x.seed(17);
        due(27, "image", x.image(), 1);
        x.type('4');
        row(x, 0, 1, 5);
        due(27, "nothing is changed", x.count(2), 1);
        x.house(1);
        x.bulb(0, 1, 2);
        x.years(3);
        x.seed(3);
        due(28, "restore", x.restore(), 1);
        due(28, "houses", x.count(0), 2);
        due(28, "bulbs", x.count(1), 2);
        due(28, "year", x.count(2), 1);
        due(28, "what may be undone", x.count(7), 2);
        due(28, "the draw", x.seed(17), 17);
        due(28, "the tape stays", x.type('2'), 2);
        due(28, "sheets stay", x.drop(0), 1);
        due(28, "undo", x.undo(), 1);
        due(28, "year", x.count(2), 0);
        due(28, "undo", x.undo(), 0);
        due(28, "owes", x.owes(1, 0), 0);
        due(28, "read", x.read(), 1);
        due(28, "restore again", x.restore(), 1);
        due(28, "houses", x.count(0), 2);
        due(28, "owes", x.owes(1, 0), 8);
        due(28, "what may be undone", x.count(7), 2);
        x.years(9);
        due(27, "a later image", x.image(), 1);
        x.undo();
        due(28, "restore", x.restore(), 1);
        due(28, "year", x.count(2), 10);
        due(28, "what may be undone", x.count(7), 8);
        x.drift(20);
        due(28, "restore", x.restore(), 1);
        for (int k = 7; k >= 0; k--) {
            due(28, "undo", x.undo(), k);
            due(28, "year", x.count(2), 2 + k);
        }
    }

    private static void whose() {
        MourningTulips x = polder("0,0,0;s10,s10@1,s20@2,s30,s30");
        due(29, "NULL", x.whose(-1, 0, 3, 0), NULL);
        row(x, 0, 3, 7, 40, 30, 30);
        due(29, "ways", x.whose(-1, 0, 3, 1), 10);
        due(29, "in all", x.whose(0, 0, 3, 1), 0);
        row(x, 1, 0, 20, 20, 60);
        due(29, "ways: 20 and 10 10 in two ways", x.whose(-1, 1, 0, 0), 2);
        due(29, "in all", x.whose(0, 1, 0, 0), 0);
        due(29, "in all", x.whose(2, 1, 0, 0), 24);
        row(x, 2, 2, 20, 20, 61);
        due(29, "no way", x.whose(-1, 2, 2, 0), 0);
        due(29, "no way: 0", x.whose(2, 2, 2, 0), 0);
        row(x, 3, 3, -10, 50, 60);
        due(29, "below 0", x.whose(-1, 3, 3, 0), 0);
        row(x, 3, 3, (1L << 32) + 100, 0, 0);
        due(29, "a long", x.whose(-1, 3, 3, 0), 0);
        row(x, 3, 3, 0, 100, 0);
        due(29, "all of one", x.whose(1, 3, 3, 0), 31);
        due(29, "none of others", x.whose(0, 3, 3, 0), 0);
        due(29, "no such house", x.whose(3, 0, 3, 1), BAD);
        due(29, "below -1", x.whose(-2, 0, 3, 1), BAD);
        due(29, "sheet 4", x.whose(-1, 4, 3, 1), BAD);
        due(29, "sheet -1", x.whose(-1, -1, 3, 1), BAD);
        due(29, "lane 4", x.whose(-1, 0, 4, 1), BAD);
        due(29, "lane -1", x.whose(-1, 0, -1, 1), BAD);
        due(29, "CAST ahead of INDEX", x.whose(-1, 0, 2, 99), CAST);
        due(29, "INDEX", x.whose(-1, 0, 3, 2), INDEX);
        due(29, "INDEX", x.whose(-1, 0, 3, -1), INDEX);
        due(29, "INDEX", x.whose(-1, 0, 3, HIGH), INDEX);
        due(29, "INDEX", x.whose(-1, 0, 3, LOW), INDEX);
        x.drop(0);
        due(29, "NULL ahead of CAST", x.whose(-1, 0, 2, 99), NULL);
        x = new MourningTulips();
        row(x, 0, 0);
        due(29, "no houses", x.whose(-1, 0, 0, 0), 1);
        due(29, "no such house", x.whose(0, 0, 0, 0), BAD);
        x = polder("1,2");
        row(x, 0, 0, 0, 0, 1);
        due(29, "no bulbs", x.whose(-1, 0, 0, 0), 1);
        due(29, "no bulbs, none in all", x.whose(1, 0, 0, 0), 0);
        due(29, "no bulbs for 1", x.whose(-1, 0, 0, 1), 0);
        x = polder("0,0,0,0,0;s1,s1,s1,s1,s1,s1,s1");
        row(x, 0, 3, 2, 2, 1, 1, 1);
        due(29, "7! by 2! 2!", x.whose(-1, 0, 3, 0), 1260);
        due(29, "none in all", x.whose(4, 0, 3, 0), 0);
        due(29, "read", tell(x, "0,0"), 2);
        row(x, 0, 3, 0, 0);
        due(29, "no bulbs", x.whose(-1, 0, 3, 0), 1);
    }

    private static void gone() {
        MourningTulips x = polder("0;s40,r27,b61,m73,k60");
        due(30, "NULL", x.gone(0, 0, 1, 0, 1, 0), NULL);
        row(x, 0, 1, 9, 30, 30, 30);
        due(30, "kinds", x.gone(0, 0, 1, 1, 1, 0), 0);
        due(30, "kinds of 27", x.gone(1, 0, 1, 1, 1, 0), 2);
        due(30, "kinds of 61: BROKEN, BLACK", x.gone(2, 0, 1, 1, 1, 0), 20);
        due(30, "kinds of 61 behind two", x.gone(2, 0, 1, 1, 2, 0), 4);
        due(30, "prices of a STEADY", x.gone(0, 0, 1, 1, 3, 1), 1);
        due(30, "prices of a STEADY", x.gone(0, 0, 1, 1, 3, 2), 30);
        due(30, "prices of a BROKEN", x.gone(2, 0, 1, 1, 3, 1), 2);
        due(30, "least of a BROKEN", x.gone(2, 0, 1, 1, 3, 2), 60);
        due(30, "prices of a RISING: none", x.gone(1, 0, 1, 1, 2, 1), 0);
        due(30, "least of a RISING: none", x.gone(1, 0, 1, 1, 2, 2), NONE);
        row(x, 1, 3, 1, 3, 5);
        due(30, "prices of a MANIA", x.gone(3, 1, 3, 0, 1, 1), 27);
        due(30, "least of a MANIA", x.gone(3, 1, 3, 0, 3, 2), 73);
        row(x, 1, 3, (1L << 32) + 30);
        due(30, "a long", x.gone(1, 1, 3, 0, 1, 0), 0);
        x.years(1);
        row(x, 1, 0, 30, 35, 35, 20);
        due(30, "in another year", x.gone(4, 1, 0, 1, 1, 0), 16);
        due(30, "no such bulb", x.gone(5, 0, 1, 0, 1, 0), BAD);
        due(30, "no such bulb", x.gone(-1, 0, 1, 0, 1, 0), BAD);
        due(30, "sheet", x.gone(0, 4, 1, 0, 1, 0), BAD);
        due(30, "sheet", x.gone(0, -1, 1, 0, 1, 0), BAD);
        due(30, "lane", x.gone(0, 0, 4, 0, 1, 0), BAD);
        due(30, "lane", x.gone(0, 0, -1, 0, 1, 0), BAD);
        due(30, "n", x.gone(0, 0, 1, 0, 0, 0), BAD);
        due(30, "n", x.gone(0, 0, 1, 0, 9, 0), BAD);
        due(30, "what", x.gone(0, 0, 1, 0, 1, 3), BAD);
        due(30, "what", x.gone(0, 0, 1, 0, 1, -1), BAD);
        due(30, "CAST", x.gone(0, 0, 2, 9, 1, 0), CAST);
        due(30, "INDEX", x.gone(0, 0, 1, 1, 4, 0), INDEX);
        due(30, "INDEX", x.gone(0, 0, 1, -1, 1, 0), INDEX);
        due(30, "INDEX", x.gone(0, 0, 1, HIGH, 8, 0), INDEX);
        due(30, "BAD ahead of NULL", x.gone(0, 3, 1, 0, 9, 0), BAD);
        due(30, "to the end", x.gone(0, 0, 1, 1, 3, 1), 1);
        x = polder("0;r20");
        x.sheet(0, 2, 24);
        x.film(0, 8, 0, 2, 16);
        due(30, "eight", x.gone(0, 0, 2, 16, 8, 0), 2);
        due(30, "eight, the least", x.gone(0, 0, 2, 16, 8, 2), 20);
        x = polder("0;b1,s1");
        row(x, 0, 2, 1, 1, 1, 1);
        due(30, "STEADY, BROKEN", x.gone(0, 0, 2, 0, 1, 0), 21);
        due(30, "STEADY, BROKEN", x.gone(0, 0, 2, 0, 4, 0), 5);
        due(30, "1, 2, 3", x.gone(0, 0, 2, 0, 3, 1), 3);
        due(30, "1", x.gone(0, 0, 2, 0, 3, 2), 1);
        x = polder("0;b41");
        x.years(1);
        row(x, 0, 2, 20, 20, 10);
        due(30, "from year 1", x.gone(0, 0, 2, 0, 3, 0), 4);
        x.sheet(0, 2, 3);
        x.film(0, 3, 0, 2, 0);
        due(31, "from year 1", x.gone(0, 0, 2, 0, 3, 0), 4);
        due(31, "from year 1", holds(x, 0, 2, 2, 10), 1);
    }

    private static void film() {
        for (int lane = 0; lane < 4; lane++) {
            MourningTulips x = polder("0;r10,k50");
            due(31, "NULL", x.film(0, 3, lane, lane, 0), NULL);
            x.sheet(lane, lane, 24);
            due(31, "24", x.film(0, 24, lane, lane, 0), 24);
            due(31, "to the end", x.film(1, 3, lane, lane, 21), 3);
            items(x, lane, lane, 12, 14, 16, 18, 20, 23, 26, 29, 32, 36, 40, 45, 50, 56, 62, 69, 76, 84, 93, 99, 99,
                25, 30, 30);
            due(31, "nothing is changed", x.count(2) + x.count(7), 0);
        }
        MourningTulips x = polder("0;r10");
        x.sheet(0, 0, 3);
        x.film(0, 2, 0, 0, 1);
        due(31, "no such bulb", x.film(1, 1, 0, 0, 0), BAD);
        due(31, "no such bulb", x.film(-1, 1, 0, 0, 0), BAD);
        due(31, "n", x.film(0, 0, 0, 0, 0), BAD);
        due(31, "n", x.film(0, 25, 0, 0, 0), BAD);
        due(31, "sheet", x.film(0, 1, 4, 0, 0), BAD);
        due(31, "sheet", x.film(0, 1, -1, 0, 0), BAD);
        due(31, "lane", x.film(0, 1, 0, 4, 0), BAD);
        due(31, "lane", x.film(0, 1, 0, -1, 0), BAD);
        due(31, "CAST", x.film(0, 24, 0, 1, 1), CAST);
        due(31, "INDEX", x.film(0, 3, 0, 0, 1), INDEX);
        due(31, "INDEX", x.film(0, 1, 0, 0, 3), INDEX);
        due(31, "INDEX", x.film(0, 1, 0, 0, -1), INDEX);
        due(31, "INDEX", x.film(0, 2, 0, 0, HIGH), INDEX);
        due(31, "refused: nothing comes", holds(x, 0, 0, 1, 12), 1);
        due(31, "refused: nothing comes", holds(x, 0, 0, 2, 14), 1);
    }

    /** Whether item i is a price: as one way to share a bulb of that price. */
    private static int holds(MourningTulips x, int sheet, int lane, int i, int price) {
        x.image();
        due(8, "read", tell(x, "0;s" + price), 1);
        int answer = x.whose(-1, sheet, lane, i);
        x.restore();
        return answer;
    }

    private static void sheetAndDrop() {
        MourningTulips x = new MourningTulips();
        due(32, "sheet -1", x.sheet(-1, 0, 1), BAD);
        due(32, "sheet 4", x.sheet(4, 0, 1), BAD);
        due(32, "lane -1", x.sheet(0, -1, 1), BAD);
        due(32, "lane 4", x.sheet(0, 4, 1), BAD);
        due(32, "25", x.sheet(0, 0, 25), BAD);
        due(32, "-1", x.sheet(0, 0, -1), SIZE);
        due(32, "LOW", x.sheet(0, 0, LOW), SIZE);
        due(32, "BAD ahead of SIZE", x.sheet(4, 0, -1), BAD);
        due(32, "refused: nothing", x.drop(0), NULL);
        due(32, "24", x.sheet(3, 3, 24), 24);
        due(32, "0", x.sheet(0, 0, 0), 0);
        due(32, "a refused one leaves it", x.sheet(3, 0, -1), SIZE);
        due(33, "drop(3)", x.drop(3), 24);
        due(33, "drop(3) again", x.drop(3), NULL);
        due(33, "drop(0)", x.drop(0), 0);
        due(33, "drop(-1)", x.drop(-1), BAD);
        due(33, "drop(4)", x.drop(4), BAD);
        due(33, "item of nothing", x.item(3, 3, 0, 1), NULL);
        x.house(0);
        x.bulb(0, 7, 0);
        row(x, 1, 1, 7, 7);
        due(32, "as set", x.whose(-1, 1, 1, 1), 1);
        due(32, "a new row", x.sheet(1, 1, 2), 2);
        due(32, "its items are 0", x.whose(-1, 1, 1, 1), 0);
    }

    private static void item() {
        MourningTulips x = polder("0;s7");
        for (int lane = 0; lane < 4; lane++) {
            x.sheet(lane, lane, 2);
            int bits = 8 << lane;
            long over = bits < 64 ? (1L << bits) + 7 : 7;
            due(34, "item", x.item(lane, lane, 1, over), 1);
            due(34, "its lowest bits, lane " + lane, x.whose(-1, lane, lane, 1), 1);
            due(34, "item", x.item(lane, lane, 1, (1L << bits - 1) + 7), 1);
            due(34, "all of its bits, lane " + lane, x.whose(-1, lane, lane, 1), 0);
            due(34, "item", x.item(lane, lane, 0, 7 - (lane < 3 ? 1L << 40 : 0)), 1);
            due(34, "its lowest bits, lane " + lane, x.whose(-1, lane, lane, 0), 1);
        }
        due(34, "sheet", x.item(4, 0, 0, 0), BAD);
        due(34, "sheet", x.item(-1, 0, 0, 0), BAD);
        due(34, "lane", x.item(0, 4, 0, 0), BAD);
        due(34, "lane", x.item(0, -1, 0, 0), BAD);
        due(34, "CAST", x.item(0, 1, 9, 0), CAST);
        due(34, "INDEX", x.item(0, 0, 2, 0), INDEX);
        due(34, "INDEX", x.item(0, 0, -1, 0), INDEX);
        due(34, "INDEX", x.item(0, 0, HIGH, 0), INDEX);
        x.drop(0);
        due(34, "NULL", x.item(0, 1, 9, 0), NULL);
    }

    private static void copy() {
        MourningTulips x = new MourningTulips();
        due(35, "NULL", x.copy(0, 0, 1, 0, 0), NULL);
        row(x, 0, 2, 1, 2, 3, 4, 5);
        due(35, "NULL", x.copy(0, 0, 1, 0, 0), NULL);
        due(35, "NULL", x.copy(1, 0, 0, 0, 0), NULL);
        row(x, 1, 2, 10, 20, 30);
        row(x, 2, 1, 1, 2, 3, 4, 5);
        due(35, "from", x.copy(4, 0, 0, 0, 1), BAD);
        due(35, "from", x.copy(-1, 0, 0, 0, 1), BAD);
        due(35, "to", x.copy(0, 0, 4, 0, 1), BAD);
        due(35, "to", x.copy(3, 0, -1, 0, 1), BAD);
        due(35, "NULL ahead of CAST", x.copy(2, 0, 3, 0, 9), NULL);
        due(35, "CAST ahead of INDEX", x.copy(2, 0, 0, 0, 9), CAST);
        due(35, "INDEX", x.copy(0, 3, 1, 0, 3), INDEX);
        due(35, "INDEX", x.copy(0, 0, 1, 1, 3), INDEX);
        due(35, "INDEX", x.copy(0, -1, 1, 0, 1), INDEX);
        due(35, "INDEX", x.copy(0, 0, 1, -1, 1), INDEX);
        due(35, "INDEX", x.copy(0, 0, 1, 0, -1), INDEX);
        due(35, "INDEX", x.copy(0, HIGH, 1, 0, HIGH), INDEX);
        due(35, "INDEX", x.copy(0, 6, 1, 0, 0), INDEX);
        due(35, "nothing at the ends", x.copy(0, 5, 1, 3, 0), 0);
        due(35, "copy", x.copy(0, 1, 1, 1, 2), 2);
        items(x, 1, 2, 10, 2, 3);
        due(35, "over itself, up", x.copy(0, 0, 0, 1, 4), 4);
        items(x, 0, 2, 1, 1, 2, 3, 4);
        row(x, 0, 2, 1, 2, 3, 4, 5);
        due(35, "over itself, down", x.copy(0, 1, 0, 0, 4), 4);
        items(x, 0, 2, 2, 3, 4, 5, 5);
    }

    /** What a row holds, told by bulbs of such prices. */
    private static void items(MourningTulips x, int sheet, int lane, int... items) {
        for (int k = 0; k < items.length; k++) {
            due(35, "item " + k + " is " + items[k], holds(x, sheet, lane, k, items[k]), 1);
        }
    }

    public static void main(String[] args) {
        newObject();
        house();
        bulb();
        ofAndOwes();
        failing();
        at();
        kinds();
        type();
        readFaults();
        read();
        count();
        years();
        sell();
        lend();
        pay();
        drift();
        undo();
        seed();
        foretold();
        falls();
        alone();
        sells();
        gift();
        forgive();
        settle();
        easter();
        image();
        whose();
        gone();
        film();
        sheetAndDrop();
        item();
        copy();
        System.out.println(wrong == 0 ? "all answers are as due" : wrong + " answers are not as due");
        if (wrong != 0) {
            System.exit(1);
        }
    }
}
