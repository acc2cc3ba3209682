import java.util.ArrayList;
import java.util.Arrays;
import java.util.List;

/**
 * The document once more, told another way than the program: a DISH is a list of TICKS worked out ahead,
 * a TICK makes a new Meat, a TEXT is read by states, and searches try everything singly.
 */
final class Model {
    static final int BAD = -1, FINDING = -3, STATE = -4, SPENT = -6, NONE = -9;

    record Slab(int thick, int cold, int salt, int fat) { }

    record Step(char letter, int q, int n) { }

    record Tick(char how, int q, int turns, boolean dry) { }

    record Fault(int place) { }

    /** A slab of meat between two TICKS. */
    static final class Meat {
        int[] warmth, most, juice;
        int[] wet = new int[2], brown = new int[2];
        int down, salt, fat, rested;
        char latest = '-';

        Meat(Slab s) {
            warmth = new int[s.thick];
            Arrays.fill(warmth, s.cold * 10);
            most = warmth.clone();
            juice = new int[s.thick];
            Arrays.fill(juice, 100);
            int w = s.salt <= 10 ? 20 + s.salt * 2 : Math.max(0, 50 - s.salt);
            wet[0] = w;
            wet[1] = w;
            salt = s.salt;
            fat = s.fat;
        }

        private Meat() {
        }

        Meat same() {
            Meat m = new Meat();
            m.warmth = warmth.clone();
            m.most = most.clone();
            m.juice = juice.clone();
            m.wet = wet.clone();
            m.brown = brown.clone();
            m.down = down;
            m.salt = salt;
            m.fat = fat;
            m.rested = rested;
            m.latest = latest;
            return m;
        }

        private int end(int side) {
            return side == 0 ? 0 : warmth.length - 1;
        }

        Meat handled(int turns, boolean dry) {
            Meat m = same();
            if (turns % 2 == 1) {
                m.down = m.down == 0 ? 1 : 0;
            }
            if (dry) {
                m.wet = new int[2];
            }
            return m;
        }

        Meat after(char how, int q) {
            Meat m = same();
            for (int i = 0; i < warmth.length; i++) {
                int above = 0;
                for (int j : new int[] {i - 1, i + 1}) {
                    if (j >= 0 && j < warmth.length) {
                        above += warmth[j] - warmth[i];
                    }
                }
                m.warmth[i] += above / 4;
            }
            for (int side = 0; side < 2; side++) {
                int e = end(side);
                int outside = how == 'r' || how == 'i' && side != down ? 200 : 100 * q;
                int part = how == 'i' ? (side == down ? 4 : 16) : how == 'o' ? 12 : how == 'b' ? 2 : 20;
                m.warmth[e] += (outside - warmth[e]) / part;
                if (m.wet[side] > 0 && m.warmth[e] > 1000) {
                    m.wet[side] = Math.max(0, m.wet[side] - ((m.warmth[e] - 1000) / 50 + 1));
                    m.warmth[e] = 1000;
                }
                if (how == 'b') {
                    m.wet[side] = 30;
                }
            }
            for (int i = 0; i < warmth.length; i++) {
                m.most[i] = Math.max(most[i], m.warmth[i]);
                if (m.warmth[i] > 550) {
                    m.juice[i] = Math.max(0, juice[i] - (m.warmth[i] - 550) / 100);
                }
            }
            for (int side = 0; side < 2; side++) {
                int w = m.warmth[end(side)];
                if (m.wet[side] == 0 && w >= 1400) {
                    m.brown[side] += (w - 1400) / 100 + fat / 4;
                }
            }
            m.latest = how;
            m.rested = how == 'r' ? rested + 1 : 0;
            return m;
        }

        Meat restedFor(int n) {
            Meat m = this;
            for (int i = 0; i < n; i++) {
                m = m.after('r', 0);
            }
            return m;
        }

        int kind(int side) {
            if (brown[side] > 100) {
                return 6;
            } else if (brown[side] >= 20) {
                return 3;
            } else if (wet[side] > 0 && salt > 0) {
                return 5;
            } else if (wet[side] > 0) {
                return 1;
            } else if (latest == 'r') {
                return 4;
            } else if (latest == 'i' && side != down) {
                return 2;
            }
            return 0;
        }

        int skin(int side, int what) {
            return new int[] {kind(side), wet[side], brown[side], side == down ? 1 : 0}[what];
        }

        int middle() {
            return warmth[warmth.length / 2];
        }

        int middleMost() {
            return most[most.length / 2];
        }

        int crust() {
            return Math.min(brown[0], brown[1]);
        }

        int just(int a, int b) {
            return (int) Arrays.stream(most).filter(m -> a <= m && m <= b).count();
        }

        int pink() {
            return just(500, 649);
        }

        int[] slice() {
            return Arrays.stream(most).map(m -> m >= 650 ? 2 : m >= 500 ? 1 : 0).toArray();
        }

        int loss() {
            int sum = 0;
            for (int i = 0; i < warmth.length; i++) {
                if (warmth[i] > 400) {
                    sum += Math.min(juice[i], juice[i] * ((warmth[i] - 400) / 100) / 20);
                }
            }
            return sum;
        }
    }

    /** A DISH: all TICKS of its STEPS, worked out ahead, what comes behind them, and how many have gone by. */
    record Dish(Meat meat, List<Tick> ticks, Tick behind, int gone) { }

    private final int[][] rows = new int[6][];
    private final byte[][] texts = new byte[4][];
    private final Slab[] slabs = new Slab[4];
    private final List<List<Step>> plans = new ArrayList<>(Arrays.asList(null, null, null, null));
    private final Dish[] kept = new Dish[3];
    private Dish dish;
    private int asked, finding;
    private long upper, lower = 1;
    private final int[] findings = new int[6];

    private int find(int f) {
        finding = f;
        findings[f]++;
        return FINDING;
    }

    private int tell(int answer, int told) {
        asked = told;
        return answer;
    }

    private static boolean off(int v, int low, int high) {
        return v < low || v > high;
    }

    int row(int r, int n) {
        if (off(r, 0, 5) || n > 40) return BAD;
        if (n < 0) return find(5);
        rows[r] = new int[n];
        return n;
    }

    int lay(int r, int i, int v) {
        if (off(r, 0, 5)) return BAD;
        if (rows[r] == null) return find(1);
        if (off(i, 0, rows[r].length - 1)) return find(2);
        int was = rows[r][i];
        rows[r][i] = v;
        return tell(1, was);
    }

    int at(int r, int i) {
        if (off(r, 0, 5)) return BAD;
        if (rows[r] == null) return find(1);
        if (off(i, 0, rows[r].length - 1)) return find(2);
        return tell(1, rows[r][i]);
    }

    int tear(int r) {
        if (off(r, 0, 5)) return BAD;
        if (rows[r] == null) return find(1);
        rows[r] = null;
        return 1;
    }

    int copy(int r, int i, int to, int j, int n) {
        if (off(r, 0, 5) || off(to, 0, 5)) return BAD;
        if (n < 0) return find(5);
        if (rows[r] == null || rows[to] == null) return find(1);
        if (i < 0 || j < 0 || (long) i + n > rows[r].length || (long) j + n > rows[to].length) return find(2);
        int[] taken = rows[r].clone();
        for (int k = 0; k < n; k++) {
            rows[to][j + k] = taken[i + k];
        }
        return 1;
    }

    int mean(int r) {
        if (off(r, 0, 5)) return BAD;
        if (rows[r] == null) return find(1);
        if (rows[r].length == 0) return find(4);
        return tell(1, (int) (Arrays.stream(rows[r]).asLongStream().sum() / rows[r].length));
    }

    int text(int t, int n) {
        if (off(t, 0, 3) || n > 80) return BAD;
        if (n < 0) return find(5);
        texts[t] = " ".repeat(n).getBytes();
        return n;
    }

    int put(int t, int i, int v) {
        if (off(t, 0, 3)) return BAD;
        if (texts[t] == null) return find(1);
        if (off(i, 0, texts[t].length - 1)) return find(2);
        int was = texts[t][i];
        texts[t][i] = (byte) v;
        return 1000 + was;
    }

    /** Numbers of an item of a letter: lowest, highest, of each number one behind the other. */
    private static int[] ranges(char letter, boolean plan) {
        if (plan) {
            switch (letter) {
                case 'i': case 'o': case 'b': return new int[] {2, 30, 1, 60};
                case 'r': return new int[] {1, 60};
                case 'u': case 'd': return new int[0];
                default: return null;
            }
        }
        switch (letter) {
            case 't': return new int[] {3, 20};
            case 'c': return new int[] {0, 40};
            case 's': return new int[] {0, 60};
            case 'f': return new int[] {0, 9};
            default: return null;
        }
    }

    /** A Fault, or a list of Steps (of a SLAB: letter, 0, number). */
    private static Object read(byte[] text, boolean plan) {
        List<Step> items = new ArrayList<>();
        String all = new String(text, java.nio.charset.StandardCharsets.ISO_8859_1);
        int ticks = 0;
        int i = 0;
        while (i < all.length()) {
            char letter = all.charAt(i);
            if (letter == ' ') {
                i++;
                continue;
            }
            int[] ranges = ranges(letter, plan);
            if (ranges == null || plan && items.size() == 12) return new Fault(i);
            i++;
            int[] numbers = new int[2];
            for (int part = 0; part * 2 < ranges.length; part++) {
                if (part == 1) {
                    if (i == all.length() || all.charAt(i) != ':') return new Fault(i);
                    i++;
                }
                int from = i;
                while (i < all.length() && i < from + 2 && "0123456789".indexOf(all.charAt(i)) >= 0) {
                    i++;
                }
                if (i == from) return new Fault(i);
                numbers[part] = Integer.parseInt(all.substring(from, i));
                if (off(numbers[part], ranges[2 * part], ranges[2 * part + 1])) return new Fault(i);
            }
            boolean oneNumber = ranges.length == 2;
            Step step = new Step(letter, oneNumber ? 0 : numbers[0], oneNumber ? numbers[0] : numbers[1]);
            ticks += plan ? step.n : 0;
            if (ticks > 200) return new Fault(i);
            items.add(step);
        }
        return items;
    }

    @SuppressWarnings("unchecked")
    private static List<Step> itemsOf(Object read) {
        return read instanceof Fault ? null : (List<Step>) read;
    }

    int fault(int t, boolean plan) {
        if (off(t, 0, 3)) return BAD;
        if (texts[t] == null) return find(1);
        return read(texts[t], plan) instanceof Fault f ? f.place : NONE;
    }

    int slab(int k, int t) {
        if (off(k, 0, 3) || off(t, 0, 3)) return BAD;
        if (texts[t] == null) return find(1);
        List<Step> items = itemsOf(read(texts[t], false));
        if (items == null) return STATE;
        int[] v = {10, 5, 0, 2};
        for (Step s : items) {
            v["tcsf".indexOf(s.letter)] = s.n;
        }
        slabs[k] = new Slab(v[0], v[1], v[2], v[3]);
        return items.size();
    }

    int plan(int k, int t) {
        if (off(k, 0, 3) || off(t, 0, 3)) return BAD;
        if (texts[t] == null) return find(1);
        List<Step> items = itemsOf(read(texts[t], true));
        if (items == null) return STATE;
        plans.set(k, items);
        return items.size();
    }

    int about(int k, int what) {
        if (off(k, 0, 3) || off(what, 0, 3)) return BAD;
        if (slabs[k] == null) return find(1);
        Slab s = slabs[k];
        return tell(1, new int[] {s.thick, s.cold, s.salt, s.fat}[what]);
    }

    int step(int k, int i) {
        if (off(k, 0, 3)) return BAD;
        if (plans.get(k) == null) return find(1);
        if (off(i, 0, plans.get(k).size() - 1)) return find(2);
        Step s = plans.get(k).get(i);
        return tell(1 + "iobrud".indexOf(s.letter), 100 * s.q + s.n);
    }

    private static Dish begun(Slab slab, List<Step> plan) {
        List<Tick> ticks = new ArrayList<>();
        int turns = 0;
        boolean dry = false;
        for (Step s : plan) {
            if (s.letter == 'u') {
                turns++;
            } else if (s.letter == 'd') {
                dry = true;
            }
            for (int i = 0; i < s.n; i++) {
                ticks.add(new Tick(s.letter, s.q, turns, dry));
                turns = 0;
                dry = false;
            }
        }
        return new Dish(new Meat(slab), ticks, new Tick('r', 0, turns, dry), 0);
    }

    private static Dish gone(Dish d, int n) {
        Meat m = d.meat;
        for (int i = d.gone; i < d.gone + n; i++) {
            Tick t = i < d.ticks.size() ? d.ticks.get(i) : i == d.ticks.size() ? d.behind : new Tick('r', 0, 0, false);
            m = m.handled(t.turns, t.dry).after(t.how, t.q);
        }
        return new Dish(m, d.ticks, d.behind, d.gone + n);
    }

    private static Meat made(Slab slab, List<Step> plan) {
        Dish d = begun(slab, plan);
        return gone(d, d.ticks.size()).meat.handled(d.behind.turns, d.behind.dry);
    }

    int dish(int slab, int plan) {
        if (off(slab, 0, 3) || off(plan, 0, 3)) return BAD;
        if (slabs[slab] == null || plans.get(plan) == null) return find(1);
        dish = begun(slabs[slab], plans.get(plan));
        return dish.ticks.size();
    }

    int go(int n) {
        if (off(n, 0, 200)) return BAD;
        if (dish == null) return STATE;
        if (dish.gone + n > 300) return SPENT;
        dish = gone(dish, n);
        return dish.gone;
    }

    int depth(int k, int what) {
        if (off(k, 0, 19) || off(what, 0, 2)) return BAD;
        if (dish == null) return STATE;
        if (k >= dish.meat.warmth.length) return find(2);
        return tell(1, new int[] {dish.meat.warmth[k], dish.meat.most[k], dish.meat.juice[k]}[what]);
    }

    int skin(int side, int what) {
        if (off(side, 0, 1) || off(what, 0, 3)) return BAD;
        if (dish == null) return STATE;
        return tell(1, dish.meat.skin(side, what));
    }

    private static boolean is(int kind, int of) {
        return kind == of || of == 0 || of == 1 && kind == 5 || of == 2 && kind == 4 || of == 3 && kind == 6;
    }

    int mark(int side, int kind) {
        if (off(side, 0, 1) || off(kind, 1, 6)) return BAD;
        if (dish == null) return STATE;
        Meat m = dish.meat;
        if (!is(m.kind(side), kind)) return find(3);
        return new int[] {0, m.wet[side], m.warmth[m.end(side)], m.brown[side], m.rested, m.salt,
            m.brown[side] - 100}[kind];
    }

    int keep(int k) {
        if (off(k, 0, 2)) return BAD;
        if (dish == null) return STATE;
        kept[k] = dish;
        return dish.gone;
    }

    int on(int k) {
        if (off(k, 0, 2)) return BAD;
        if (kept[k] == null) return find(1);
        dish = kept[k];
        return dish.gone;
    }

    private static boolean offSpan(int a, int b) {
        return off(a, 0, 4000) || off(b, 0, 4000) || a > b;
    }

    int just(int a, int b) {
        if (offSpan(a, b)) return BAD;
        if (dish == null) return STATE;
        return tell(dish.meat.just(a, b), Arrays.stream(dish.meat.juice).sum());
    }

    int slice(int r) {
        if (off(r, 0, 5)) return BAD;
        if (dish == null) return STATE;
        rows[r] = dish.meat.slice();
        return (int) Arrays.stream(rows[r]).filter(v -> v == 1).count();
    }

    int cut(int n) {
        if (off(n, 0, 60)) return BAD;
        if (dish == null) return STATE;
        return tell(dish.meat.loss(), dish.meat.restedFor(n).loss());
    }

    int rise() {
        if (dish == null) return STATE;
        int most = 0;
        int when = 0;
        for (int n = 60; n > 0; n--) {
            int by = dish.meat.restedFor(n).middle() - dish.meat.middle();
            if (by >= most && by > 0) {
                most = by;
                when = n;
            }
        }
        return tell(most, when);
    }

    int wire(int d) {
        if (off(d, 0, 9)) return BAD;
        if (dish == null) return STATE;
        int[] w = dish.meat.warmth;
        int mid = w.length / 2;
        int a = w[mid < d ? 0 : mid - d];
        int b = w[mid + d >= w.length ? w.length - 1 : mid + d];
        return tell(Math.min(a, b), Math.max(a, b));
    }

    private static Meat byWay(Slab s, int q, int n, int t) {
        Meat m = new Meat(s);
        for (int i = 0; i < n; i++) {
            m = m.handled(i > 0 && i % t == 0 ? 1 : 0, false).after('i', q);
        }
        return m;
    }

    private boolean offWay(int slab, int q, int n, int t) {
        return off(slab, 0, 3) || off(q, 10, 30) || off(n, 1, 120) || off(t, 1, 60);
    }

    int way(int slab, int q, int n, int t) {
        if (offWay(slab, q, n, t)) return BAD;
        if (slabs[slab] == null) return find(1);
        Meat m = byWay(slabs[slab], q, n, t);
        return tell(m.crust(), m.pink());
    }

    int often(int slab, int q, int n, int t) {
        if (offWay(slab, q, n, t)) return BAD;
        if (slabs[slab] == null) return find(1);
        Meat m = byWay(slabs[slab], q, n, t);
        Meat once = byWay(slabs[slab], q, n, n / 2 + n % 2);
        return tell(100 + m.pink() - once.pink(), m.middleMost() - once.middleMost());
    }

    int turns(int slab, int q, int n) {
        if (offWay(slab, q, n, 1)) return BAD;
        if (slabs[slab] == null) return find(1);
        int best = 60;
        int pink = byWay(slabs[slab], q, n, 60).pink();
        for (int t = 59; t >= 1; t--) {
            int p = byWay(slabs[slab], q, n, t).pink();
            if (p >= pink) {
                best = t;
                pink = p;
            }
        }
        return tell(best, pink);
    }

    int most(int slab, int a, int b, int v) {
        if (off(slab, 0, 3) || offSpan(a, b) || off(v, 0, 99)) return BAD;
        if (slabs[slab] == null) return find(1);
        int best = NONE;
        int many = -1;
        for (int q = 14; q <= 30; q += 2) {
            for (int n = 4; n <= 80; n += 4) {
                for (int t : new int[] {1, 2, 4, 8, 40}) {
                    Meat m = byWay(slabs[slab], q, n, t);
                    if (m.crust() >= v && m.just(a, b) > many) {
                        many = m.just(a, b);
                        best = 10000 * q + 100 * n + t;
                    }
                }
            }
        }
        return many < 0 ? NONE : tell(best, many);
    }

    int off(int slab, int q, int t, int w) {
        if (offWay(slab, q, 1, t) || off(w, 0, 2000)) return BAD;
        if (slabs[slab] == null) return find(1);
        int best = 0;
        int by = Integer.MAX_VALUE;
        for (int n = 1; n <= 120; n++) {
            Meat m = byWay(slabs[slab], q, n, t);
            int greatest = m.middle();
            for (int i = 0; i < 30; i++) {
                m = m.after('r', 0);
                greatest = Math.max(greatest, m.middle());
            }
            if (Math.abs(greatest - w) < by) {
                by = Math.abs(greatest - w);
                best = n;
            }
        }
        return tell(best, by);
    }

    private boolean offPair(int slab, int plan) {
        return off(slab, 0, 3) || off(plan, 0, 3);
    }

    private boolean missingPair(int slab, int plan) {
        return slabs[slab] == null || plans.get(plan) == null;
    }

    int rest(int slab, int plan) {
        if (offPair(slab, plan)) return BAD;
        if (missingPair(slab, plan)) return find(1);
        Meat m = made(slabs[slab], plans.get(plan));
        int best = 30;
        for (int n = 30; n >= 0; n--) {
            best = m.restedFor(n).loss() <= m.restedFor(best).loss() ? n : best;
        }
        return tell(best, m.restedFor(best).loss());
    }

    int salt(int slab, int plan) {
        if (offPair(slab, plan)) return BAD;
        if (missingPair(slab, plan)) return find(1);
        Slab s = slabs[slab];
        int best = 0;
        int crust = -1;
        for (int salt = 0; salt <= 60; salt++) {
            int c = made(new Slab(s.thick, s.cold, salt, s.fat), plans.get(plan)).crust();
            if (c > crust) {
                crust = c;
                best = salt;
            }
        }
        return tell(best, crust);
    }

    int thick(int slab, int plan, int a, int b) {
        if (offPair(slab, plan) || offSpan(a, b)) return BAD;
        if (missingPair(slab, plan)) return find(1);
        Slab s = slabs[slab];
        List<Integer> so = new ArrayList<>();
        for (int thick = 3; thick <= 20; thick++) {
            int m = made(new Slab(thick, s.cold, s.salt, s.fat), plans.get(plan)).middleMost();
            if (!off(m, a, b)) {
                so.add(thick);
            }
        }
        return tell(so.size(), so.isEmpty() ? NONE : so.get(0));
    }

    /** 201, if it is not so by 200. */
    private static int till(Slab s, int q, int t, int v) {
        int n = 1;
        Meat m = byWay(s, q, 1, t);
        while (n < 201 && m.middleMost() < v) {
            m = m.handled(n % t == 0 ? 1 : 0, false).after('i', q);
            n++;
        }
        return n;
    }

    int same(int slab, int other, int q, int t, int v, int w) {
        if (offWay(slab, q, 1, t) || off(other, 0, 3) || off(v, 0, 2000) || off(w, 0, 2000)) return BAD;
        if (slabs[slab] == null || slabs[other] == null) return find(1);
        int a = till(slabs[slab], q, t, v);
        int b = till(slabs[other], q, t, w);
        if (a == 201 || b == 201) return NONE;
        return tell(Math.abs(a - b), b > a ? 1 : 0);
    }

    int order(int set, int r) {
        if (off(set, 1, 15) || off(r, 0, 5)) return BAD;
        List<Integer> all = new ArrayList<>();
        for (int k = 0; k < 4; k++) {
            if ((set & 1 << k) != 0) {
                all.add(k);
            }
        }
        for (int k : all) {
            if (missingPair(k, k)) return find(1);
        }
        List<List<Integer>> orders = new ArrayList<>();
        orders(new ArrayList<>(), all, orders);
        List<Integer> best = null;
        int least = 0;
        for (List<Integer> order : orders) {
            int loss = 0;
            int wait = 0;
            for (int i = order.size() - 1; i >= 0; i--) {
                int k = order.get(i);
                loss += made(slabs[k], plans.get(k)).restedFor(wait).loss();
                wait += plans.get(k).stream().mapToInt(Step::n).sum();
            }
            if (best == null || loss < least) {
                best = order;
                least = loss;
            }
        }
        rows[r] = best.stream().mapToInt(k -> k).toArray();
        return least;
    }

    private static void orders(List<Integer> begun, List<Integer> all, List<List<Integer>> into) {
        if (begun.size() == all.size()) {
            into.add(new ArrayList<>(begun));
        }
        for (Integer k : all) {
            if (!begun.contains(k)) {
                begun.add(k);
                orders(begun, all, into);
                begun.remove(k);
            }
        }
    }

    int both(int slab, int other, int q, int v, int w) {
        if (off(slab, 0, 3) || off(other, 0, 3) || off(q, 2, 30) || off(v, 0, 2000) || off(w, 0, 2000)) return BAD;
        if (slabs[slab] == null || slabs[other] == null) return find(1);
        Meat a = new Meat(slabs[slab]);
        Meat b = new Meat(slabs[other]);
        List<Integer> so = new ArrayList<>();
        for (int n = 1; n <= 200; n++) {
            a = a.after('o', q);
            b = b.after('o', q);
            if (a.middleMost() >= v && b.middleMost() <= w) {
                so.add(n);
            }
        }
        return so.isEmpty() ? NONE : tell(so.get(0), so.size());
    }

    int safe(int slab, int q) {
        if (off(slab, 0, 3) || off(q, 2, 30)) return BAD;
        if (slabs[slab] == null) return find(1);
        Meat m = new Meat(slabs[slab]);
        int sum = 0;
        for (int n = 1; n <= 200; n++) {
            m = m.after('b', q);
            sum += m.middle() > 500 ? (m.middle() - 500) / 10 : 0;
            if (sum >= 300) return tell(n, m.middle());
        }
        return NONE;
    }

    private int wrongSlice(int r) {
        if (rows[r] == null) return 1;
        if (off(rows[r].length, 3, 20)) return 5;
        return Arrays.stream(rows[r]).anyMatch(v -> off(v, 0, 2)) ? 3 : 0;
    }

    /** Pairs (10 times the SLAB and the PLAN, how unlike) of a ROW's size, by SLABS, then PLANS. */
    private List<int[]> pairs(int r) {
        List<int[]> all = new ArrayList<>();
        for (int s = 0; s < 4; s++) {
            for (int p = 0; p < 4; p++) {
                if (!missingPair(s, p) && slabs[s].thick == rows[r].length) {
                    int[] slice = made(slabs[s], plans.get(p)).slice();
                    int unlike = 0;
                    for (int i = 0; i < slice.length; i++) {
                        unlike += slice[i] == rows[r][i] ? 0 : 1;
                    }
                    all.add(new int[] {10 * s + p, unlike});
                }
            }
        }
        int least = all.stream().mapToInt(p -> p[1]).min().orElse(0);
        all.removeIf(p -> p[1] > least);
        return all;
    }

    int which(int r) {
        if (off(r, 0, 5)) return BAD;
        if (wrongSlice(r) != 0) return find(wrongSlice(r));
        List<int[]> pairs = pairs(r);
        return pairs.isEmpty() ? NONE : tell(pairs.get(0)[0], pairs.get(0)[1]);
    }

    int odds(int r, int plan) {
        if (off(r, 0, 5) || off(plan, 0, 3)) return BAD;
        if (wrongSlice(r) != 0) return find(wrongSlice(r));
        List<int[]> pairs = pairs(r);
        if (pairs.isEmpty()) return find(4);
        long of = pairs.stream().filter(p -> p[0] % 10 == plan).count();
        lower = 1;
        while (of * lower % pairs.size() != 0) {
            lower++;
        }
        upper = of * lower / pairs.size();
        return pairs.size();
    }

    int rule(int slab, int q, int t, int v) {
        if (offWay(slab, q, 1, t) || off(v, 0, 2000)) return BAD;
        if (slabs[slab] == null) return find(1);
        Slab s = slabs[slab];
        int[] off = new int[21];
        for (int thick = 3; thick <= 20; thick++) {
            int n = Math.min(200, till(new Slab(thick, s.cold, s.salt, s.fat), q, t, v));
            for (int x = 1; x <= 20; x++) {
                off[x] += Math.abs(x * thick - n);
            }
        }
        int best = 1;
        for (int x = 2; x <= 20; x++) {
            best = off[x] < off[best] ? x : best;
        }
        return tell(best, off[best]);
    }

    int asked() {
        return asked;
    }

    long upper() {
        return upper;
    }

    long lower() {
        return lower;
    }

    private static int there(Object[] all) {
        return (int) Arrays.stream(all).filter(o -> o != null).count();
    }

    int count(int what) {
        switch (what) {
            case 0: return there(slabs);
            case 1: return there(plans.toArray());
            case 2: return dish == null ? 0 : dish.gone;
            case 3: case 4:
                int of = what == 3 ? 1 : 3;
                return dish == null ? 0 : (is(dish.meat.kind(0), of) ? 1 : 0) + (is(dish.meat.kind(1), of) ? 1 : 0);
            case 5: return there(kept);
            case 6: return there(rows);
            case 7: return there(texts);
            default: return BAD;
        }
    }

    int finding() {
        return finding;
    }

    int findings(int f) {
        return off(f, 1, 5) ? BAD : findings[f];
    }

    long digest() {
        List<Long> all = new ArrayList<>();
        for (int what = 0; what < 8; what++) {
            all.add((long) count(what));
        }
        for (Slab s : slabs) {
            addAll(all, s == null ? new int[] {-1} : new int[] {s.thick, s.cold, s.salt, s.fat});
        }
        for (List<Step> plan : plans) {
            if (plan == null) {
                addAll(all, -1);
            } else {
                plan.forEach(s -> addAll(all, 1 + "iobrud".indexOf(s.letter), 100 * s.q + s.n));
            }
        }
        if (dish == null) {
            addAll(all, -1);
        } else {
            Meat m = dish.meat;
            for (int i = 0; i < m.warmth.length; i++) {
                addAll(all, m.warmth[i], m.most[i], m.juice[i]);
            }
            for (int side = 0; side < 2; side++) {
                addAll(all, m.skin(side, 0), m.skin(side, 1), m.skin(side, 2), m.skin(side, 3));
            }
        }
        for (int[] row : rows) {
            addAll(all, row == null ? -1 : row.length);
            addAll(all, row == null ? new int[0] : row);
        }
        for (byte[] text : texts) {
            addAll(all, text == null ? -1 : text.length);
            for (int i = 0; text != null && i < text.length; i++) {
                addAll(all, text[i]);
            }
        }
        long h = 17;
        for (long v : all) {
            h = 31 * h + v;
        }
        return h;
    }

    private static void addAll(List<Long> all, int... values) {
        for (int v : values) {
            all.add((long) v);
        }
    }
}
