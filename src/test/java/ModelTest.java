import java.lang.reflect.Array;
import java.math.BigInteger;
import java.util.ArrayDeque;
import java.util.ArrayList;
import java.util.Arrays;
import java.util.Deque;
import java.util.List;
import java.util.Random;

/**
 * Long runs of drawn calls, whose answers must be those of a second program. That one is written as
 * plainly as can be (it tries every gift, every way and every partition), and free of LANGUAGE.md.
 */
public final class ModelTest {
    private static final int RUNS = 400;
    private static final int CALLS = 512;
    private static final int BAD = -1, NOT = -2, FULL = -3, NONE = -4, NULL = -11, CAST = -12, INDEX = -13, SIZE = -14;

    /** The state that may be undone. */
    private static final class State {
        List<Integer> cash = new ArrayList<>();
        List<int[]> bulbs = new ArrayList<>();
        int[][] owe = new int[5][5];
        int year = 0;
        long draw = 1;

        State twin() {
            State t = new State();
            t.cash.addAll(cash);
            for (int[] b : bulbs) {
                t.bulbs.add(b.clone());
            }
            for (int h = 0; h < 5; h++) {
                t.owe[h] = owe[h].clone();
            }
            t.year = year;
            t.draw = draw;
            return t;
        }

        int goods(int h) {
            int sum = cash.get(h);
            for (int[] b : bulbs) {
                sum += b[2] == h ? b[1] : 0;
            }
            return sum;
        }

        int fails(boolean othersPay) {
            int failed = 0;
            boolean more = true;
            while (more) {
                more = false;
                for (int h = 0; h < cash.size(); h++) {
                    int has = goods(h);
                    int due = 0;
                    for (int o = 0; o < cash.size(); o++) {
                        has += othersPay || (failed >> o & 1) == 0 ? owe[o][h] : 0;
                        due += owe[h][o];
                    }
                    if (has < due && (failed >> h & 1) == 0) {
                        failed |= 1 << h;
                        more = true;
                    }
                }
            }
            return failed;
        }

        void goOn() {
            for (int[] b : bulbs) {
                b[1] = next(b[0], b[1], year);
            }
            year++;
        }

        State behind(int n) {
            State t = twin();
            for (int k = 0; k < n; k++) {
                t.goOn();
            }
            return t;
        }
    }

    static int next(int kind, int p, int year) {
        int q = p;
        if (kind == 1) {
            q = p + p / 10 + 1;
        } else if (kind == 3) {
            q = p + p / 10 + 1;
            q = q + q / 10 + 1;
            q = q >= 90 ? 1 : q;
        } else if (kind == 2 || kind == 4) {
            q = Math.max(1, year % 3 == 0 ? p / 2 : p);
            q += kind == 4 && year % 2 == 1 ? 5 : 0;
        }
        return Math.min(99, q);
    }

    private static final class Model {
        State now = new State();
        Deque<State> past = new ArrayDeque<>();
        State image = null;
        Deque<State> imagePast = null;
        String tape = "";
        Object[] sheets = new Object[4];

        boolean house(int h) {
            return h >= 0 && h < now.cash.size();
        }

        boolean bulb(int b) {
            return b >= 0 && b < now.bulbs.size();
        }

        static boolean in(long v, long low, long high) {
            return v >= low && v <= high;
        }

        void keep() {
            past.addLast(now.twin());
            if (past.size() > 8) {
                past.removeFirst();
            }
        }

        static Deque<State> twins(Deque<State> states) {
            Deque<State> twins = new ArrayDeque<>();
            for (State s : states) {
                twins.addLast(s.twin());
            }
            return twins;
        }

        boolean hand(int from, int to, int n) {
            if (now.cash.get(from) < n || now.cash.get(to) + n > 999) {
                return false;
            }
            keep();
            now.cash.set(from, now.cash.get(from) - n);
            now.cash.set(to, now.cash.get(to) + n);
            return true;
        }

        int done(int call, int a, int b, int c) {
            switch (call) {
                case 0:
                    if (!in(a, 0, 999)) return BAD;
                    if (now.cash.size() == 5) return FULL;
                    past.clear();
                    now.cash.add(a);
                    return now.cash.size() - 1;
                case 1:
                    if (!in(a, 0, 4) || !in(b, 1, 99) || !house(c)) return BAD;
                    if (now.bulbs.size() == 7) return FULL;
                    past.clear();
                    now.bulbs.add(new int[] {a, b, c});
                    return now.bulbs.size() - 1;
                case 5:
                    if (!in(a, 32, 126)) return BAD;
                    if (tape.length() == 100) return FULL;
                    tape += (char) a;
                    return tape.length();
                case 6:
                    return readTape();
                case 8:
                    return years(a, false);
                case 9:
                    if (!bulb(a) || !house(b)) return BAD;
                    int[] sold = now.bulbs.get(a);
                    if (sold[2] == b || !hand(b, sold[2], sold[1])) return NOT;
                    sold[2] = b;
                    return sold[1];
                case 10:
                    if (!house(a) || !house(b) || a == b || !in(c, 1, 99)) return BAD;
                    if (now.owe[b][a] + c > 99 || !hand(a, b, c)) return NOT;
                    return now.owe[b][a] += c;
                case 11:
                    if (!house(a) || !house(b) || a == b || !in(c, 1, 99)) return BAD;
                    if (now.owe[a][b] < c || !hand(a, b, c)) return NOT;
                    return now.owe[a][b] -= c;
                case 12:
                    return years(a, true);
                case 13:
                    if (past.isEmpty()) return NONE;
                    now = past.removeLast();
                    return past.size();
                case 14:
                    if (a < 0) return BAD;
                    long was = now.draw;
                    now.draw = a;
                    return (int) was;
                case 25:
                    image = now.twin();
                    imagePast = twins(past);
                    return 1;
                default:
                    if (image == null) return NONE;
                    now = image.twin();
                    past = twins(imagePast);
                    return 1;
            }
        }

        int years(int n, boolean drift) {
            if (!in(n, 1, 40)) return BAD;
            if (now.year + n > 9999) return FULL;
            for (int k = 0; k < n; k++) {
                keep();
                if (drift) {
                    BigInteger next = BigInteger.valueOf(now.draw).multiply(BigInteger.valueOf(1103515245))
                        .add(BigInteger.valueOf(12345)).mod(BigInteger.TWO.pow(31));
                    now.draw = next.longValue();
                    if (!now.cash.isEmpty()) {
                        int h = (int) (now.draw / 65536 % now.cash.size());
                        now.cash.set(h, (int) Math.min(999, now.cash.get(h) + now.draw / 128 % 9));
                    }
                }
                now.goOn();
            }
            return now.fails(false);
        }

        /** Letter by letter, with what may stand at a place as a state. */
        int readTape() {
            String t = tape;
            tape = "";
            State s = new State();
            s.draw = now.draw;
            String wants = "cash";
            int[] bulb = null;
            int to = -1;
            int k = 0;
            while (true) {
                while (k < t.length() && t.charAt(k) == ' ') k++;
                boolean end = k == t.length();
                char c = end ? 0 : t.charAt(k);
                int place = k;
                k++;
                if (wants.equals("cash") || wants.equals("debt") || wants.equals("price")) {
                    if (!Character.isDigit(c)) return -20 - place;
                    int v = c - '0';
                    if (k < t.length() && Character.isDigit(t.charAt(k))) {
                        v = Integer.parseInt(t.substring(place, k + 1));
                        k++;
                    }
                    if (v == 0 && !wants.equals("cash")) return -20 - place;
                    if (wants.equals("cash")) {
                        s.cash.add(v);
                    } else if (wants.equals("debt")) {
                        s.owe[s.cash.size() - 1][to] = v;
                    } else {
                        bulb[1] = v;
                        s.bulbs.add(bulb);
                    }
                    wants = wants.equals("price") ? "@,." : ">,;.";
                } else if (wants.equals("to")) {
                    to = "01234".indexOf(c);
                    int from = s.cash.size() - 1;
                    if (end || to < 0 || to == from || s.owe[from][to] != 0) return -20 - place;
                    wants = "=";
                } else if (wants.equals("kind")) {
                    int kind = end ? -1 : "srbmk".indexOf(c);
                    if (kind < 0) return -20 - place;
                    bulb = new int[] {kind, 0, 0};
                    wants = "price";
                } else if (wants.equals("holder")) {
                    if (!Character.isDigit(c) || c - '0' >= s.cash.size()) return -20 - place;
                    bulb[2] = c - '0';
                    wants = ",.";
                } else if (end && wants.contains(".")) {
                    break;
                } else if (end || wants.indexOf(c) < 0 || c == '.') {
                    return -20 - place;
                } else if (c == ',') {
                    boolean houses = wants.contains(";");
                    if (houses ? s.cash.size() == 5 : s.bulbs.size() == 7) return -20 - place;
                    wants = houses ? "cash" : "kind";
                } else {
                    wants = c == '>' ? "to" : c == '=' ? "debt" : c == ';' ? "kind" : "holder";
                }
            }
            for (int[] row : s.owe) {
                for (int h = s.cash.size(); h < 5; h++) {
                    if (row[h] != 0) return -20 - t.length();
                }
            }
            now = s;
            past.clear();
            return s.cash.size();
        }

        int asked(int call, int a, int b, int c) {
            switch (call) {
                case 2: {
                    if (!house(a) || !in(b, 0, 5)) return BAD;
                    int owed = 0, claims = 0, set = 0;
                    for (int o = 0; o < 5; o++) {
                        owed += now.owe[a][o];
                        claims += now.owe[o][a];
                    }
                    for (int k = 0; k < now.bulbs.size(); k++) {
                        set |= now.bulbs.get(k)[2] == a ? 1 << k : 0;
                    }
                    int[] all = {now.cash.get(a), now.goods(a), owed, claims, set, now.fails(false) >> a & 1};
                    return all[b];
                }
                case 3:
                    if (!bulb(a) || !in(b, 0, 3)) return BAD;
                    return b < 3 ? now.bulbs.get(a)[b] : now.behind(1).bulbs.get(a)[1];
                case 4:
                    return !house(a) || !house(b) || a == b ? BAD : now.owe[a][b];
                case 7:
                    return counted(a);
                case 15:
                    return !bulb(a) || !in(b, 0, 60) ? BAD : now.behind(b).bulbs.get(a)[1];
                case 16:
                    return !in(a, 0, 60) ? BAD : now.behind(a).fails(false);
                case 17:
                    return !house(a) || !in(b, 0, 60) ? BAD : now.behind(b).goods(a);
                case 18:
                    if (!house(a)) return BAD;
                    for (int n = 0; n <= 60; n++) {
                        if ((now.behind(n).fails(false) >> a & 1) == 1) return n;
                    }
                    return NONE;
                case 19:
                    return now.fails(true);
                case 20: {
                    if (!bulb(a) || !in(b, 0, 1)) return BAD;
                    int when = 0;
                    for (int n = 40; n >= 0; n--) {
                        when = now.behind(n).bulbs.get(a)[1] >= now.behind(when).bulbs.get(a)[1] ? n : when;
                    }
                    return b == 0 ? when : now.behind(when).bulbs.get(a)[1];
                }
                case 21:
                    if (!house(a)) return BAD;
                    for (int g = 0; g <= 999; g++) {
                        State t = now.twin();
                        t.cash.set(a, t.cash.get(a) + g);
                        if (t.fails(false) == 0) return g;
                    }
                    return NONE;
                case 22:
                    return forgiven(a);
                case 23:
                    return a == 0 ? fewest() : a == 1 ? paid() : a == 2 ? ring() : BAD;
                default:
                    return easter(a, b, c);
            }
        }

        int counted(int what) {
            int cash = 0, prices = 0, owed = 0;
            for (int v : now.cash) cash += v;
            for (int[] v : now.bulbs) prices += v[1];
            for (int[] row : now.owe) for (int v : row) owed += v;
            int[] all = {now.cash.size(), now.bulbs.size(), now.year, now.fails(false), cash, prices, owed, past.size()};
            return in(what, 0, 7) ? all[what] : BAD;
        }

        int forgiven(int what) {
            if (!in(what, 0, 1)) return BAD;
            int best = NONE, least = 99;
            for (int d = 44; d >= 0; d--) {
                if (d % 10 < 5 && now.owe[d / 10][d % 10] > 0) {
                    State t = now.twin();
                    t.owe[d / 10][d % 10] = 0;
                    int many = Integer.bitCount(t.fails(false));
                    if (many <= least) {
                        best = d;
                        least = many;
                    }
                }
            }
            return best == NONE ? NONE : what == 0 ? best : least;
        }

        int net(int h) {
            int net = 0;
            for (int o = 0; o < 5; o++) net += now.owe[o][h] - now.owe[h][o];
            return net;
        }

        /** Every partition of five into groups whose nets are 0 together. */
        int fewest() {
            int best = 99;
            for (int labels = 0; labels < 3125; labels++) {
                int[] nets = new int[5];
                int[] size = new int[5];
                for (int h = 0, rest = labels; h < 5; h++, rest /= 5) {
                    nets[rest % 5] += net(h);
                    size[rest % 5]++;
                }
                int payments = 0;
                for (int g = 0; g < 5; g++) {
                    payments += nets[g] != 0 ? 99 : Math.max(0, size[g] - 1);
                }
                best = Math.min(best, payments);
            }
            return best;
        }

        int paid() {
            int sum = 0;
            for (int h = 0; h < 5; h++) sum += Math.abs(net(h));
            return sum / 2;
        }

        int ring() {
            int set = 0;
            for (int h = 0; h < 5; h++) set |= walk(h, h, 0) ? 1 << h : 0;
            return set;
        }

        boolean walk(int home, int from, int seen) {
            for (int to = 0; to < 5; to++) {
                if (now.owe[from][to] > 0 && (to == home || (seen >> to & 1) == 0 && walk(home, to, seen | 1 << to))) {
                    return true;
                }
            }
            return false;
        }

        int easter(int h, int c, int what) {
            if (!house(h) || !in(c, 0, 10) || !in(what, 0, 1)) return BAD;
            int m = now.bulbs.size();
            BigInteger above = BigInteger.ZERO;
            for (int set = 0; set < 1 << m; set++) {
                State t = now.twin();
                for (int b = 0; b < m; b++) {
                    if ((set >> b & 1) == 1) t.bulbs.get(b)[1] = Math.max(1, t.bulbs.get(b)[1] / 2);
                }
                if ((t.fails(false) >> h & 1) == 1) {
                    int k = Integer.bitCount(set);
                    above = above.add(BigInteger.valueOf(c).pow(k).multiply(BigInteger.valueOf(10 - c).pow(m - k)));
                }
            }
            BigInteger below = BigInteger.TEN.pow(m);
            BigInteger common = above.gcd(below);
            return (what == 0 ? above : below).divide(common).intValueExact();
        }

        /** Taken as a row of a lane by a cast of the machine. */
        static Object cast(Object row, int lane) {
            if (row == null) throw new NullPointerException();
            return lane == 0 ? (byte[]) row : lane == 1 ? (short[]) row : lane == 2 ? (int[]) row : (Object) (long[]) row;
        }

        int sheets(int call, int[] a, long v) {
            try {
                return onSheets(call, a, v);
            } catch (NullPointerException e) {
                return NULL;
            } catch (ClassCastException e) {
                return CAST;
            } catch (IndexOutOfBoundsException e) {
                return INDEX;
            } catch (NegativeArraySizeException e) {
                return SIZE;
            }
        }

        int onSheets(int call, int[] a, long v) {
            switch (call) {
                case 27:
                    if (!in(a[0], -1, now.cash.size() - 1) || !in(a[1], 0, 3) || !in(a[2], 0, 3)) return BAD;
                    return ways(a[0], items(cast(sheets[a[1]], a[2]), a[3], now.cash.size()));
                case 28:
                    if (!bulb(a[0]) || !in(a[1], 0, 3) || !in(a[2], 0, 3) || !in(a[4], 1, 8) || !in(a[5], 0, 2)) return BAD;
                    return gone(a[0], items(cast(sheets[a[1]], a[2]), a[3], a[4]), a[5]);
                case 29:
                    if (!bulb(a[0]) || !in(a[1], 1, 24) || !in(a[2], 0, 3) || !in(a[3], 0, 3)) return BAD;
                    Object row = cast(sheets[a[2]], a[3]);
                    items(row, a[4], a[1]);
                    for (int k = 0; k < a[1]; k++) {
                        put(row, a[4] + k, now.behind(k + 1).bulbs.get(a[0])[1]);
                    }
                    return a[1];
                case 30:
                    if (!in(a[0], 0, 3) || !in(a[1], 0, 3) || a[2] > 24) return BAD;
                    Class<?>[] lanes = {byte.class, short.class, int.class, long.class};
                    sheets[a[0]] = Array.newInstance(lanes[a[1]], a[2]);
                    return a[2];
                case 31:
                    if (!in(a[0], 0, 3)) return BAD;
                    int many = Array.getLength(sheets[a[0]]);
                    sheets[a[0]] = null;
                    return many;
                case 32:
                    if (!in(a[0], 0, 3) || !in(a[1], 0, 3)) return BAD;
                    put(cast(sheets[a[0]], a[1]), a[2], v);
                    return 1;
                default:
                    if (!in(a[0], 0, 3) || !in(a[2], 0, 3)) return BAD;
                    Object from = sheets[a[0]];
                    Object to = sheets[a[2]];
                    if (from == null || to == null) return NULL;
                    if (from.getClass() != to.getClass()) return CAST;
                    System.arraycopy(from, a[1], to, a[3], a[4]);
                    return a[4];
            }
        }

        static long[] items(Object row, int i, int n) {
            Object taken = Array.newInstance(row.getClass().getComponentType(), n);
            System.arraycopy(row, i, taken, 0, n);
            long[] items = new long[n];
            for (int k = 0; k < n; k++) items[k] = Array.getLong(taken, k);
            return items;
        }

        static void put(Object row, int i, long v) {
            if (row instanceof byte[]) ((byte[]) row)[i] = (byte) v;
            else if (row instanceof short[]) ((short[]) row)[i] = (short) v;
            else if (row instanceof int[]) ((int[]) row)[i] = (int) v;
            else ((long[]) row)[i] = v;
        }

        int ways(int house, long[] row) {
            int n = now.cash.size(), m = now.bulbs.size();
            int ways = 0, always = -1;
            long all = Math.round(Math.pow(n, m));
            for (long way = 0; way < all; way++) {
                long[] sums = new long[n];
                int set = 0;
                long rest = way;
                for (int b = 0; b < m; b++, rest /= n) {
                    sums[(int) (rest % n)] += now.bulbs.get(b)[1];
                    set |= rest % n == house ? 1 << b : 0;
                }
                if (Arrays.equals(sums, row)) {
                    ways++;
                    always &= set;
                }
            }
            return house < 0 ? ways : ways == 0 ? 0 : always;
        }

        int gone(int bulb, long[] row, int what) {
            int kinds = 0, many = 0, least = NONE;
            for (int k = 0; k < 5; k++) {
                kinds |= goes(k, now.bulbs.get(bulb)[1], row) ? 1 << k : 0;
            }
            for (int p = 99; p >= 1; p--) {
                if (goes(now.bulbs.get(bulb)[0], p, row)) {
                    many++;
                    least = p;
                }
            }
            return what == 0 ? kinds : what == 1 ? many : least;
        }

        boolean goes(int kind, int price, long[] row) {
            for (int k = 0; k < row.length; k++) {
                price = next(kind, price, now.year + k);
                if (price != row[k]) return false;
            }
            return true;
        }
    }

    private static final String[] NAMES = {"house", "bulb", "of", "at", "owes", "type", "read", "count", "years", "sell",
        "lend", "pay", "drift", "undo", "seed", "price", "then", "goods", "falls", "alone", "sells", "gift", "forgive",
        "settle", "easter", "image", "restore", "whose", "gone", "film", "sheet", "drop", "item", "copy"};

    private static int real(MourningTulips x, int call, int[] a, long v) {
        switch (call) {
            case 0: return x.house(a[0]);
            case 1: return x.bulb(a[0], a[1], a[2]);
            case 2: return x.of(a[0], a[1]);
            case 3: return x.at(a[0], a[1]);
            case 4: return x.owes(a[0], a[1]);
            case 5: return x.type(a[0]);
            case 6: return x.read();
            case 7: return x.count(a[0]);
            case 8: return x.years(a[0]);
            case 9: return x.sell(a[0], a[1]);
            case 10: return x.lend(a[0], a[1], a[2]);
            case 11: return x.pay(a[0], a[1], a[2]);
            case 12: return x.drift(a[0]);
            case 13: return x.undo();
            case 14: return x.seed(a[0]);
            case 15: return x.price(a[0], a[1]);
            case 16: return x.then(a[0]);
            case 17: return x.goods(a[0], a[1]);
            case 18: return x.falls(a[0]);
            case 19: return x.alone();
            case 20: return x.sells(a[0], a[1]);
            case 21: return x.gift(a[0]);
            case 22: return x.forgive(a[0]);
            case 23: return x.settle(a[0]);
            case 24: return x.easter(a[0], a[1], a[2]);
            case 25: return x.image();
            case 26: return x.restore();
            case 27: return x.whose(a[0], a[1], a[2], a[3]);
            case 28: return x.gone(a[0], a[1], a[2], a[3], a[4], a[5]);
            case 29: return x.film(a[0], a[1], a[2], a[3], a[4]);
            case 30: return x.sheet(a[0], a[1], a[2]);
            case 31: return x.drop(a[0]);
            case 32: return x.item(a[0], a[1], a[2], v);
            default: return x.copy(a[0], a[1], a[2], a[3], a[4]);
        }
    }

    private static int due(Model m, int call, int[] a, long v) {
        boolean does = call < 2 || call == 5 || call == 6 || call >= 8 && call <= 14 || call == 25 || call == 26;
        if (does) return m.done(call, a[0], a[1], a[2]);
        return call >= 27 ? m.sheets(call, a, v) : m.asked(call, a[0], a[1], a[2]);
    }

    private final Random random;
    private final MourningTulips x = new MourningTulips();
    private final Model m = new Model();
    private final int run;
    private int calls = 0;
    private int wrong = 0;

    private ModelTest(int run) {
        this.run = run;
        random = new Random(run);
    }

    private int draw(int low, int high) {
        if (random.nextInt(60) == 0) {
            int[] odd = {low - 1, high + 1, -1, Integer.MIN_VALUE, Integer.MAX_VALUE, 0};
            return odd[random.nextInt(odd.length)];
        }
        return low + random.nextInt(high - low + 1);
    }

    private int house() {
        return draw(0, Math.max(0, m.now.cash.size() - 1));
    }

    private int bulb() {
        return draw(0, Math.max(0, m.now.bulbs.size() - 1));
    }

    private int lane(int sheet) {
        if (sheet < 0 || sheet > 3 || m.sheets[sheet] == null || random.nextInt(10) == 0) return draw(0, 3);
        Object row = m.sheets[sheet];
        return row instanceof byte[] ? 0 : row instanceof short[] ? 1 : row instanceof int[] ? 2 : 3;
    }

    private void call(int call, long v, int... some) {
        if (calls == CALLS) return;
        calls++;
        int[] a = Arrays.copyOf(some, 6);
        long want = due(m, call, a, v);
        long got = real(x, call, a, v);
        if (got != want) {
            wrong++;
            System.out.println("run " + run + ", call " + calls + ": " + NAMES[call] + Arrays.toString(some) + " " + v
                + " answered " + got + ", due is " + want);
        }
    }

    private void tell(String text) {
        for (int k = 0; k < text.length(); k++) call(5, 0, text.charAt(k));
        if (calls < CALLS) call(6, 0);
    }

    private String text() {
        StringBuilder t = new StringBuilder();
        int houses = 1 + random.nextInt(5);
        for (int h = 0; h < houses; h++) {
            t.append(h > 0 ? "," : "").append(random.nextInt(random.nextBoolean() ? 100 : 12));
            for (int o = 0; o < 5; o++) {
                if (random.nextInt(houses) == 0 && o != h && (o < houses || random.nextInt(30) == 0)) {
                    t.append(">").append(o).append("=").append(1 + random.nextInt(random.nextBoolean() ? 99 : 9));
                }
            }
        }
        int bulbs = random.nextInt(8);
        for (int b = 0; b < bulbs; b++) {
            t.append(b > 0 ? "," : ";").append("srbmk".charAt(random.nextInt(5)));
            t.append(1 + random.nextInt(random.nextBoolean() ? 99 : 9));
            if (random.nextBoolean()) t.append("@").append(random.nextInt(houses));
        }
        while (random.nextInt(3) == 0) {
            int at = random.nextInt(t.length() + 1);
            t.insert(at, random.nextInt(3) > 0 ? ' ' : "0159>=,;@srbmkx ".charAt(random.nextInt(16)));
        }
        if (random.nextInt(8) == 0) t.setLength(random.nextInt(t.length() + 1));
        return t.toString();
    }

    /** A row that might be true: what houses have by some way. */
    private void likelyRow() {
        int n = m.now.cash.size();
        if (n == 0) return;
        long[] sums = new long[n];
        for (int[] b : m.now.bulbs) sums[random.nextInt(n)] += b[1];
        int sheet = random.nextInt(4);
        int lane = 1 + random.nextInt(3);
        int i = random.nextInt(4);
        call(30, 0, sheet, lane, i + n);
        for (int h = 0; h < n; h++) call(32, sums[h], sheet, lane, i + h);
        for (int h = -1; h < n; h++) call(27, 0, h, sheet, lane, i);
    }

    private void likelyFilm() {
        int sheet = random.nextInt(4);
        int b = bulb();
        int n = draw(1, 8);
        int i = draw(0, 3);
        call(30, 0, sheet, 2, 12);
        call(29, 0, b, n, sheet, 2, i);
        for (int what = 0; what < 3; what++) call(28, 0, b, sheet, 2, i, n, what);
        for (int what = 0; what < 3; what++) call(28, 0, bulb(), sheet, 2, i, 1, what);
    }

    private void anyCall() {
        int call = random.nextInt(NAMES.length);
        int sheet = draw(0, 3);
        int other = draw(0, 3);
        switch (call) {
            case 0: call(call, 0, draw(0, 999)); break;
            case 1: call(call, 0, draw(0, 4), draw(1, 99), house()); break;
            case 2: call(call, 0, house(), draw(0, 5)); break;
            case 3: call(call, 0, bulb(), draw(0, 3)); break;
            case 4: call(call, 0, house(), house()); break;
            case 5: call(call, 0, draw(32, 126)); break;
            case 6: call(call, 0); break;
            case 7: call(call, 0, draw(0, 7)); break;
            case 8: case 12: call(call, 0, random.nextBoolean() ? draw(1, 4) : draw(1, 40)); break;
            case 9: call(call, 0, bulb(), house()); break;
            case 10: case 11: call(call, 0, house(), house(), random.nextBoolean() ? draw(1, 99) : draw(1, 9)); break;
            case 13: case 19: case 25: case 26: call(call, 0); break;
            case 14: call(call, 0, random.nextInt() >>> random.nextInt(31)); break;
            case 15: call(call, 0, bulb(), draw(0, 60)); break;
            case 16: call(call, 0, draw(0, 60)); break;
            case 17: call(call, 0, house(), draw(0, 60)); break;
            case 18: case 21: call(call, 0, house()); break;
            case 20: call(call, 0, bulb(), draw(0, 1)); break;
            case 22: call(call, 0, draw(0, 1)); break;
            case 23: call(call, 0, draw(0, 2)); break;
            case 24: call(call, 0, house(), draw(0, 10), draw(0, 1)); break;
            case 27: call(call, 0, draw(-1, 4), sheet, lane(sheet), draw(0, 4)); break;
            case 28: call(call, 0, bulb(), sheet, lane(sheet), draw(0, 5), draw(1, 8), draw(0, 2)); break;
            case 29: call(call, 0, bulb(), draw(1, 24), sheet, lane(sheet), draw(0, 5)); break;
            case 30: call(call, 0, sheet, draw(0, 3), draw(0, 24)); break;
            case 31: call(call, 0, sheet); break;
            case 32: call(call, random.nextLong() >> random.nextInt(64), sheet, lane(sheet), draw(0, 12)); break;
            default: call(call, 0, sheet, draw(0, 8), other, draw(0, 8), draw(0, 8)); break;
        }
    }

    private int go() {
        while (calls < CALLS) {
            int kind = random.nextInt(60);
            if (kind == 0) {
                tell(text());
            } else if (kind == 1) {
                likelyRow();
            } else if (kind == 2) {
                likelyFilm();
            } else {
                anyCall();
            }
        }
        return wrong;
    }

    public static void main(String[] args) {
        int wrong = 0;
        for (int run = 0; run < RUNS; run++) {
            wrong += new ModelTest(run).go();
        }
        System.out.println(wrong == 0 ? "all answers are as due" : wrong + " answers are not as due");
        if (wrong != 0) {
            System.exit(1);
        }
    }
}
