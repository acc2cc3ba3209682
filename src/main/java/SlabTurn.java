/** Slabs of meat by depths, gone through tick by tick as a cook's plans tell. See shared/DOC.md. */
public final class SlabTurn {
    public static final int BAD = -1, FULL = -2, FINDING = -3, STATE = -4, SPENT = -6, NONE = -9;

    private static final int NOTHING = 1, BEYOND = 2, UNLIKE = 3, NOUGHT = 4, SIZE = 5;
    private static final int IRON = 1, OVEN = 2, BATH = 3, REST = 4, TURN = 5, DRY = 6;
    private static final int PLACES = 40, SIGNS = 80, STEPS = 12, THINNEST = 3, THICKEST = 20;
    private static final int PLAN_TICKS = 200, DISH_TICKS = 300, WAIT = 200;
    private static final int PINK_FROM = 500, GREY_FROM = 650;
    /** The KIND that each KIND of a SKIN is one of. */
    private static final int[] PARENT = {-1, 0, 0, 0, 2, 1, 3};
    private static final int[] TURNS_TRIED = {1, 2, 4, 8, 40};

    private final Row[] rows = new Row[6];
    private final Text[] texts = new Text[4];
    private final Slab[] slabs = new Slab[4];
    private final Plan[] plans = new Plan[4];
    private final Dish dish = new Dish();
    private final Dish[] kept = new Dish[3];
    /** Dishes to try things on: what they hold is of no use behind a call. */
    private final Dish trial = new Dish();
    private final Dish second = new Dish();
    private final Reader reader = new Reader();
    private final Slab readSlab = new Slab();
    private final Plan readPlan = new Plan();
    private final Fire fire = new Fire();
    /** How unlike a ROW each pair of SLAB and PLAN is (-1: it does not count). */
    private final int[] unlike = new int[16];
    private final int[] ticksByThick = new int[THICKEST + 1];
    private final int[] findings = new int[6];
    private int finding;
    private int asked;
    private long upper;
    private long lower = 1;

    public SlabTurn() {
        for (int i = 0; i < rows.length; i++) {
            rows[i] = new Row();
        }
        for (int i = 0; i < texts.length; i++) {
            texts[i] = new Text();
        }
        for (int i = 0; i < slabs.length; i++) {
            slabs[i] = new Slab();
        }
        for (int i = 0; i < plans.length; i++) {
            plans[i] = new Plan();
        }
        for (int i = 0; i < kept.length; i++) {
            kept[i] = new Dish();
        }
    }

    // ---- 1 rows, texts, slabs, plans.

    public int row(int r, int n) {
        Row row = rowAt(r);
        if (row == null || n > PLACES) {
            return BAD;
        }
        if (n < 0) {
            return found(SIZE);
        }
        row.begin(n);
        return n;
    }

    public int lay(int r, int i, int v) {
        Row row = rowAt(r);
        if (row == null) {
            return BAD;
        }
        if (!row.there()) {
            return found(NOTHING);
        }
        if (!row.has(i)) {
            return found(BEYOND);
        }
        int was = row.value(i);
        row.set(i, v);
        return told(1, was);
    }

    public int at(int r, int i) {
        Row row = rowAt(r);
        if (row == null) {
            return BAD;
        }
        if (!row.there()) {
            return found(NOTHING);
        }
        if (!row.has(i)) {
            return found(BEYOND);
        }
        return told(1, row.value(i));
    }

    public int tear(int r) {
        Row row = rowAt(r);
        if (row == null) {
            return BAD;
        }
        if (!row.there()) {
            return found(NOTHING);
        }
        row.size = -1;
        return 1;
    }

    public int copy(int r, int i, int to, int j, int n) {
        Row from = rowAt(r);
        Row into = rowAt(to);
        if (from == null || into == null) {
            return BAD;
        }
        if (n < 0) {
            return found(SIZE);
        }
        if (!from.there() || !into.there()) {
            return found(NOTHING);
        }
        if (!from.holds(i, n) || !into.holds(j, n)) {
            return found(BEYOND);
        }
        System.arraycopy(from.place, i, into.place, j, n);
        return 1;
    }

    public int mean(int r) {
        Row row = rowAt(r);
        if (row == null) {
            return BAD;
        }
        if (!row.there()) {
            return found(NOTHING);
        }
        if (row.size == 0) {
            return found(NOUGHT);
        }
        return told(1, row.average());
    }

    public int text(int t, int n) {
        Text text = textAt(t);
        if (text == null || n > SIGNS) {
            return BAD;
        }
        if (n < 0) {
            return found(SIZE);
        }
        text.begin(n);
        return n;
    }

    public int put(int t, int i, int v) {
        Text text = textAt(t);
        if (text == null) {
            return BAD;
        }
        if (!text.there()) {
            return found(NOTHING);
        }
        if (!text.has(i)) {
            return found(BEYOND);
        }
        int was = text.value(i);
        text.set(i, (byte) v);
        return was + 1000;
    }

    public int fault(int t, boolean plan) {
        Text text = textAt(t);
        if (text == null) {
            return BAD;
        }
        if (!text.there()) {
            return found(NOTHING);
        }
        if (plan) {
            reader.readPlan(text, readPlan);
        } else {
            reader.readSlab(text, readSlab);
        }
        return reader.fault;
    }

    public int slab(int k, int t) {
        Slab slab = slabAt(k);
        Text text = textAt(t);
        if (slab == null || text == null) {
            return BAD;
        }
        if (!text.there()) {
            return found(NOTHING);
        }
        int items = reader.readSlab(text, readSlab);
        if (reader.fault != NONE) {
            return STATE;
        }
        slab.become(readSlab);
        return items;
    }

    public int plan(int k, int t) {
        Plan plan = planAt(k);
        Text text = textAt(t);
        if (plan == null || text == null) {
            return BAD;
        }
        if (!text.there()) {
            return found(NOTHING);
        }
        reader.readPlan(text, readPlan);
        if (reader.fault != NONE) {
            return STATE;
        }
        plan.become(readPlan);
        return plan.count;
    }

    public int about(int k, int what) {
        Slab slab = slabAt(k);
        if (slab == null || !within(what, 0, 3)) {
            return BAD;
        }
        if (!slab.there) {
            return found(NOTHING);
        }
        return told(1, slab.tells(what));
    }

    public int step(int k, int i) {
        Plan plan = planAt(k);
        if (plan == null) {
            return BAD;
        }
        if (!plan.there) {
            return found(NOTHING);
        }
        if (!plan.has(i)) {
            return found(BEYOND);
        }
        return told(plan.kindAt(i), plan.numbersAt(i));
    }

    // ---- 2 dishes.

    public int dish(int slab, int plan) {
        Slab meat = slabAt(slab);
        Plan way = planAt(plan);
        if (meat == null || way == null) {
            return BAD;
        }
        if (!meat.there || !way.there) {
            return found(NOTHING);
        }
        dish.begin(meat, meat.thick, meat.salt);
        dish.plan.become(way);
        dish.there = true;
        return way.ticks;
    }

    public int go(int n) {
        if (!within(n, 0, PLAN_TICKS)) {
            return BAD;
        }
        if (!dish.there) {
            return STATE;
        }
        if (dish.tick + n > DISH_TICKS) {
            return SPENT;
        }
        dish.goOn(n);
        return dish.tick;
    }

    public int depth(int k, int what) {
        if (!within(k, 0, THICKEST - 1) || !within(what, 0, 2)) {
            return BAD;
        }
        if (!dish.there) {
            return STATE;
        }
        if (k >= dish.thick) {
            return found(BEYOND);
        }
        return told(1, dish.depthTells(k, what));
    }

    public int skin(int side, int what) {
        if (!within(side, 0, 1) || !within(what, 0, 3)) {
            return BAD;
        }
        if (!dish.there) {
            return STATE;
        }
        return told(1, dish.skinTells(side, what));
    }

    public int mark(int side, int kind) {
        if (!within(side, 0, 1) || !within(kind, 1, 6)) {
            return BAD;
        }
        if (!dish.there) {
            return STATE;
        }
        if (!isOf(dish.kindOf(side), kind)) {
            return found(UNLIKE);
        }
        return dish.markTells(side, kind);
    }

    public int keep(int k) {
        Dish place = keptAt(k);
        if (place == null) {
            return BAD;
        }
        if (!dish.there) {
            return STATE;
        }
        place.become(dish);
        return dish.tick;
    }

    public int on(int k) {
        Dish place = keptAt(k);
        if (place == null) {
            return BAD;
        }
        if (!place.there) {
            return found(NOTHING);
        }
        dish.become(place);
        return dish.tick;
    }

    public int just(int a, int b) {
        if (!isSpan(a, b)) {
            return BAD;
        }
        if (!dish.there) {
            return STATE;
        }
        return told(dish.justSo(a, b), dish.allJuice());
    }

    public int slice(int r) {
        Row row = rowAt(r);
        if (row == null) {
            return BAD;
        }
        if (!dish.there) {
            return STATE;
        }
        row.begin(dish.thick);
        for (int i = 0; i < dish.thick; i++) {
            row.set(i, dish.colour(i));
        }
        return dish.pink();
    }

    public int cut(int n) {
        if (!within(n, 0, 60)) {
            return BAD;
        }
        if (!dish.there) {
            return STATE;
        }
        trial.become(dish);
        trial.restFor(n);
        return told(dish.lossNow(), trial.lossNow());
    }

    public int rise() {
        if (!dish.there) {
            return STATE;
        }
        trial.become(dish);
        int now = trial.middleWarmth();
        int best = now;
        int after = 0;
        for (int i = 1; i <= 60; i++) {
            trial.heat(REST, 0);
            if (trial.middleWarmth() > best) {
                best = trial.middleWarmth();
                after = i;
            }
        }
        return told(best - now, after);
    }

    public int wire(int d) {
        if (!within(d, 0, 9)) {
            return BAD;
        }
        if (!dish.there) {
            return STATE;
        }
        int low = dish.warmthAt(Math.max(dish.middle() - d, 0));
        int high = dish.warmthAt(Math.min(dish.middle() + d, dish.thick - 1));
        return told(Math.min(low, high), Math.max(low, high));
    }

    // ---- 3 ways, plans.

    public int way(int slab, int q, int n, int t) {
        Slab meat = slabAt(slab);
        if (meat == null || !isWay(q, t) || !within(n, 1, 120)) {
            return BAD;
        }
        if (!meat.there) {
            return found(NOTHING);
        }
        trial.makeByWay(meat, q, n, t);
        return told(trial.crust(), trial.pink());
    }

    public int often(int slab, int q, int n, int t) {
        Slab meat = slabAt(slab);
        if (meat == null || !isWay(q, t) || !within(n, 1, 120)) {
            return BAD;
        }
        if (!meat.there) {
            return found(NOTHING);
        }
        trial.makeByWay(meat, q, n, t);
        second.makeByWay(meat, q, n, (n + 1) / 2);
        return told(100 + trial.pink() - second.pink(), trial.middleMost() - second.middleMost());
    }

    public int turns(int slab, int q, int n) {
        Slab meat = slabAt(slab);
        if (meat == null || !isWay(q, 1) || !within(n, 1, 120)) {
            return BAD;
        }
        if (!meat.there) {
            return found(NOTHING);
        }
        int best = 1;
        int pinks = -1;
        for (int t = 1; t <= 60; t++) {
            trial.makeByWay(meat, q, n, t);
            if (trial.pink() > pinks) {
                pinks = trial.pink();
                best = t;
            }
        }
        return told(best, pinks);
    }

    public int most(int slab, int a, int b, int v) {
        Slab meat = slabAt(slab);
        if (meat == null || !isSpan(a, b) || !within(v, 0, 99)) {
            return BAD;
        }
        if (!meat.there) {
            return found(NOTHING);
        }
        int best = NONE;
        int depths = -1;
        for (int q = 14; q <= 30; q += 2) {
            for (int i = 0; i < TURNS_TRIED.length; i++) {
                int t = TURNS_TRIED[i];
                trial.begin(meat, meat.thick, meat.salt);
                for (int n = 1; n <= 80; n++) {
                    trial.goByWay(q, t);
                    int so = n % 4 == 0 && trial.crust() >= v ? trial.justSo(a, b) : -1;
                    int told = 10000 * q + 100 * n + t;
                    if (so > depths || so >= 0 && so == depths && told < best) {
                        depths = so;
                        best = told;
                    }
                }
            }
        }
        return best == NONE ? NONE : told(best, depths);
    }

    public int off(int slab, int q, int t, int w) {
        Slab meat = slabAt(slab);
        if (meat == null || !isWay(q, t) || !within(w, 0, 2000)) {
            return BAD;
        }
        if (!meat.there) {
            return found(NOTHING);
        }
        int best = 0;
        int least = 0;
        trial.begin(meat, meat.thick, meat.salt);
        for (int n = 1; n <= 120; n++) {
            trial.goByWay(q, t);
            second.become(trial);
            int by = Math.abs(second.greatestAtRest(30) - w);
            if (best == 0 || by < least) {
                best = n;
                least = by;
            }
        }
        return told(best, least);
    }

    public int rest(int slab, int plan) {
        Slab meat = slabAt(slab);
        Plan way = planAt(plan);
        if (meat == null || way == null) {
            return BAD;
        }
        if (!meat.there || !way.there) {
            return found(NOTHING);
        }
        trial.makeByPlan(meat, meat.thick, meat.salt, way);
        int best = 0;
        int least = trial.lossNow();
        for (int n = 1; n <= 30; n++) {
            trial.heat(REST, 0);
            if (trial.lossNow() < least) {
                least = trial.lossNow();
                best = n;
            }
        }
        return told(best, least);
    }

    public int salt(int slab, int plan) {
        Slab meat = slabAt(slab);
        Plan way = planAt(plan);
        if (meat == null || way == null) {
            return BAD;
        }
        if (!meat.there || !way.there) {
            return found(NOTHING);
        }
        int best = 0;
        int crust = -1;
        for (int s = 0; s <= 60; s++) {
            trial.makeByPlan(meat, meat.thick, s, way);
            if (trial.crust() > crust) {
                crust = trial.crust();
                best = s;
            }
        }
        return told(best, crust);
    }

    public int thick(int slab, int plan, int a, int b) {
        Slab meat = slabAt(slab);
        Plan way = planAt(plan);
        if (meat == null || way == null || !isSpan(a, b)) {
            return BAD;
        }
        if (!meat.there || !way.there) {
            return found(NOTHING);
        }
        int many = 0;
        int thinnest = NONE;
        for (int depths = THINNEST; depths <= THICKEST; depths++) {
            trial.makeByPlan(meat, depths, meat.salt, way);
            if (within(trial.middleMost(), a, b)) {
                many++;
                thinnest = thinnest == NONE ? depths : thinnest;
            }
        }
        return told(many, thinnest);
    }

    // ---- 4 several, baths, slices.

    public int same(int slab, int other, int q, int t, int v, int w) {
        Slab one = slabAt(slab);
        Slab two = slabAt(other);
        if (one == null || two == null || !isWay(q, t) || !within(v, 0, 2000) || !within(w, 0, 2000)) {
            return BAD;
        }
        if (!one.there || !two.there) {
            return found(NOTHING);
        }
        int first = trial.ticksTill(one, one.thick, q, t, v);
        int last = trial.ticksTill(two, two.thick, q, t, w);
        if (first == NONE || last == NONE) {
            return NONE;
        }
        return told(Math.abs(first - last), last > first ? 1 : 0);
    }

    public int order(int set, int r) {
        Row row = rowAt(r);
        if (row == null || !within(set, 1, 15)) {
            return BAD;
        }
        for (int k = 0; k < 4; k++) {
            if (isIn(k, set) && !hasBoth(k)) {
                return found(NOTHING);
            }
        }
        for (int k = 0; k < 4; k++) {
            if (isIn(k, set)) {
                tellLosses(k, set);
            }
        }
        fire.findBest(set);
        row.begin(Integer.bitCount(set));
        for (int i = 0; i < row.size; i++) {
            row.set(i, fire.bestAt(i));
        }
        return fire.least;
    }

    public int both(int slab, int other, int q, int v, int w) {
        Slab one = slabAt(slab);
        Slab two = slabAt(other);
        if (one == null || two == null || !isHeat(q) || !within(v, 0, 2000) || !within(w, 0, 2000)) {
            return BAD;
        }
        if (!one.there || !two.there) {
            return found(NOTHING);
        }
        trial.begin(one, one.thick, one.salt);
        second.begin(two, two.thick, two.salt);
        int first = NONE;
        int ticks = 0;
        for (int n = 1; n <= WAIT; n++) {
            trial.heat(OVEN, q);
            second.heat(OVEN, q);
            if (trial.middleMost() >= v && second.middleMost() <= w) {
                ticks++;
                first = first == NONE ? n : first;
            }
        }
        return first == NONE ? NONE : told(first, ticks);
    }

    public int safe(int slab, int q) {
        Slab meat = slabAt(slab);
        if (meat == null || !isHeat(q)) {
            return BAD;
        }
        if (!meat.there) {
            return found(NOTHING);
        }
        trial.begin(meat, meat.thick, meat.salt);
        int counted = 0;
        for (int n = 1; n <= WAIT; n++) {
            trial.heat(BATH, q);
            counted += Math.max(trial.middleWarmth() - 500, 0) / 10;
            if (counted >= 300) {
                return told(n, trial.middleWarmth());
            }
        }
        return NONE;
    }

    public int which(int r) {
        Row row = rowAt(r);
        if (row == null) {
            return BAD;
        }
        int wrong = wrongSlice(row);
        if (wrong != 0) {
            return found(wrong);
        }
        int least = leastUnlike(row);
        for (int i = 0; least >= 0 && i < unlike.length; i++) {
            if (unlike[i] == least) {
                return told(10 * (i / 4) + i % 4, least);
            }
        }
        return NONE;
    }

    public int odds(int r, int plan) {
        Row row = rowAt(r);
        if (row == null || !within(plan, 0, 3)) {
            return BAD;
        }
        int wrong = wrongSlice(row);
        if (wrong != 0) {
            return found(wrong);
        }
        int least = leastUnlike(row);
        if (least < 0) {
            return found(NOUGHT);
        }
        int pairs = 0;
        int due = 0;
        for (int i = 0; i < unlike.length; i++) {
            if (unlike[i] == least) {
                pairs++;
                due += i % 4 == plan ? 1 : 0;
            }
        }
        tellFraction(due, pairs);
        return pairs;
    }

    public int rule(int slab, int q, int t, int v) {
        Slab meat = slabAt(slab);
        if (meat == null || !isWay(q, t) || !within(v, 0, 2000)) {
            return BAD;
        }
        if (!meat.there) {
            return found(NOTHING);
        }
        for (int depths = THINNEST; depths < ticksByThick.length; depths++) {
            int till = trial.ticksTill(meat, depths, q, t, v);
            ticksByThick[depths] = till == NONE ? WAIT : till;
        }
        int best = 0;
        int least = 0;
        for (int x = 1; x <= 20; x++) {
            int by = 0;
            for (int depths = THINNEST; depths < ticksByThick.length; depths++) {
                by += Math.abs(x * depths - ticksByThick[depths]);
            }
            if (best == 0 || by < least) {
                best = x;
                least = by;
            }
        }
        return told(best, least);
    }

    // ---- 5 what is told.

    public int asked() {
        return asked;
    }

    public long upper() {
        return upper;
    }

    public long lower() {
        return lower;
    }

    public int count(int what) {
        switch (what) {
            case 0: return slabsThere();
            case 1: return plansThere();
            case 2: return dish.there ? dish.tick : 0;
            case 3: return skinsOf(1);
            case 4: return skinsOf(3);
            case 5: return dishesKept();
            case 6: return rowsThere();
            case 7: return textsThere();
            default: return BAD;
        }
    }

    public int finding() {
        return finding;
    }

    public int findings(int f) {
        return f >= 1 && f < findings.length ? findings[f] : BAD;
    }

    public long digest() {
        long h = 17;
        for (int what = 0; what <= 7; what++) {
            h = 31 * h + count(what);
        }
        for (Slab slab : slabs) {
            h = slab == null ? h : slab.digestOn(h);
        }
        for (Plan plan : plans) {
            h = plan == null ? h : plan.digestOn(h);
        }
        h = dish.digestOn(h);
        for (Row row : rows) {
            h = row == null ? h : row.digestOn(h);
        }
        for (Text text : texts) {
            h = text == null ? h : text.digestOn(h);
        }
        return h;
    }

    // ---- helpers.

    private static boolean within(int v, int low, int high) {
        return v >= low && v <= high;
    }

    private static boolean isWay(int q, int t) {
        return within(q, 10, 30) && within(t, 1, 60);
    }

    private static boolean isHeat(int q) {
        return within(q, 2, 30);
    }

    private static boolean isSpan(int a, int b) {
        return within(a, 0, 4000) && within(b, 0, 4000) && a <= b;
    }

    /** Whether a KIND is another one, or one of its kinds. */
    private static boolean isOf(int kind, int other) {
        int up = kind;
        for (int i = 0; i < PARENT.length && within(up, 0, PARENT.length - 1); i++) {
            if (up == other) {
                return true;
            }
            up = PARENT[up];
        }
        return false;
    }

    private int found(int f) {
        finding = f;
        if (f >= 0 && f < findings.length) {
            findings[f]++;
        }
        return FINDING;
    }

    private int told(int answer, int more) {
        asked = more;
        return answer;
    }

    private void tellFraction(int over, int under) {
        int a = over;
        int b = under;
        for (int i = 0; i < 64 && b != 0; i++) {
            int left = a % b;
            a = b;
            b = left;
        }
        upper = a == 0 ? 0 : over / a;
        lower = a == 0 ? 1 : under / a;
    }

    private Row rowAt(int r) {
        return r >= 0 && r < rows.length ? rows[r] : null;
    }

    private Text textAt(int t) {
        return t >= 0 && t < texts.length ? texts[t] : null;
    }

    private Slab slabAt(int k) {
        return k >= 0 && k < slabs.length ? slabs[k] : null;
    }

    private Plan planAt(int k) {
        return k >= 0 && k < plans.length ? plans[k] : null;
    }

    private Dish keptAt(int k) {
        return k >= 0 && k < kept.length ? kept[k] : null;
    }

    private boolean hasBoth(int k) {
        Slab meat = slabAt(k);
        Plan way = planAt(k);
        return meat != null && way != null && meat.there && way.there;
    }

    private static boolean isIn(int k, int set) {
        return (set >> k & 1) == 1;
    }

    /** Tells the fire what is lost of a SLAB made by its PLAN, whichever others of a set come behind it. */
    private void tellLosses(int k, int set) {
        Slab meat = slabAt(k);
        Plan way = planAt(k);
        if (meat == null || way == null) {
            return;
        }
        trial.makeByPlan(meat, meat.thick, meat.salt, way);
        int others = set & ~(1 << k);
        int wait = ticksOf(others);
        for (int n = 0; n <= wait; n++) {
            int loss = trial.lossNow();
            for (int behind = 0; behind < 16; behind++) {
                if ((behind & ~others) == 0 && ticksOf(behind) == n) {
                    fire.setLoss(k, behind, loss);
                }
            }
            trial.heat(REST, 0);
        }
    }

    private int ticksOf(int set) {
        int ticks = 0;
        for (int k = 0; k < plans.length; k++) {
            Plan way = planAt(k);
            ticks += way != null && isIn(k, set) ? way.ticks : 0;
        }
        return ticks;
    }

    /** The FINDING for which a ROW is no slice, or 0. */
    private static int wrongSlice(Row row) {
        if (!row.there()) {
            return NOTHING;
        }
        if (!within(row.size, THINNEST, THICKEST)) {
            return SIZE;
        }
        for (int i = 0; i < row.size; i++) {
            if (!within(row.value(i), 0, 2)) {
                return UNLIKE;
            }
        }
        return 0;
    }

    /** Fills in how unlike each pair is; the least, or -1 if none counts. */
    private int leastUnlike(Row row) {
        int least = -1;
        for (int i = 0; i < unlike.length; i++) {
            Slab meat = slabAt(i / 4);
            Plan way = planAt(i % 4);
            unlike[i] = -1;
            if (meat != null && way != null && meat.there && way.there && meat.thick == row.size) {
                trial.makeByPlan(meat, meat.thick, meat.salt, way);
                unlike[i] = trial.unlikeRow(row);
                least = least < 0 ? unlike[i] : Math.min(least, unlike[i]);
            }
        }
        return least;
    }

    private int slabsThere() {
        int n = 0;
        for (Slab slab : slabs) {
            n += slab != null && slab.there ? 1 : 0;
        }
        return n;
    }

    private int plansThere() {
        int n = 0;
        for (Plan plan : plans) {
            n += plan != null && plan.there ? 1 : 0;
        }
        return n;
    }

    private int dishesKept() {
        int n = 0;
        for (Dish one : kept) {
            n += one != null && one.there ? 1 : 0;
        }
        return n;
    }

    private int rowsThere() {
        int n = 0;
        for (Row row : rows) {
            n += row != null && row.there() ? 1 : 0;
        }
        return n;
    }

    private int textsThere() {
        int n = 0;
        for (Text text : texts) {
            n += text != null && text.there() ? 1 : 0;
        }
        return n;
    }

    private int skinsOf(int kind) {
        int n = 0;
        for (int side = 0; dish.there && side < 2; side++) {
            n += isOf(dish.kindOf(side), kind) ? 1 : 0;
        }
        return n;
    }

    // ---- classes inside.

    /** A ROW of ints; of size -1 it is missing. */
    private static final class Row {
        final int[] place = new int[PLACES];
        int size = -1;

        boolean there() {
            return size >= 0;
        }

        void begin(int n) {
            size = Math.max(0, Math.min(n, place.length));
            for (int i = 0; i < place.length; i++) {
                place[i] = 0;
            }
        }

        boolean has(int i) {
            return i >= 0 && i < size && i < place.length;
        }

        boolean holds(int i, int n) {
            return i >= 0 && i <= size && n >= 0 && n <= size - i;
        }

        int value(int i) {
            return has(i) ? place[i] : 0;
        }

        void set(int i, int v) {
            if (has(i)) {
                place[i] = v;
            }
        }

        int average() {
            long sum = 0;
            for (int i = 0; i < size; i++) {
                sum += value(i);
            }
            return size > 0 ? (int) (sum / size) : 0;
        }

        long digestOn(long from) {
            long h = 31 * from + size;
            for (int i = 0; i < size; i++) {
                h = 31 * h + value(i);
            }
            return h;
        }
    }

    /** A TEXT of bytes; of size -1 it is missing. */
    private static final class Text {
        /** What value() tells of a place that there is not: no byte. */
        static final int END = 1000;
        final byte[] sign = new byte[SIGNS];
        int size = -1;

        boolean there() {
            return size >= 0;
        }

        void begin(int n) {
            size = Math.max(0, Math.min(n, sign.length));
            for (int i = 0; i < sign.length; i++) {
                sign[i] = 32;
            }
        }

        boolean has(int i) {
            return i >= 0 && i < size && i < sign.length;
        }

        int value(int i) {
            return has(i) ? sign[i] : END;
        }

        void set(int i, byte v) {
            if (has(i)) {
                sign[i] = v;
            }
        }

        long digestOn(long from) {
            long h = 31 * from + size;
            for (int i = 0; i < size; i++) {
                h = 31 * h + value(i);
            }
            return h;
        }
    }

    /** A SLAB as its TEXT told it. */
    private static final class Slab {
        boolean there;
        int thick;
        int cold;
        int salt;
        int fat;

        void begin() {
            there = true;
            thick = 10;
            cold = 5;
            salt = 0;
            fat = 2;
        }

        void become(Slab other) {
            there = other.there;
            thick = other.thick;
            cold = other.cold;
            salt = other.salt;
            fat = other.fat;
        }

        int tells(int what) {
            switch (what) {
                case 0: return thick;
                case 1: return cold;
                case 2: return salt;
                default: return fat;
            }
        }

        long digestOn(long from) {
            if (!there) {
                return 31 * from - 1;
            }
            long h = from;
            for (int what = 0; what <= 3; what++) {
                h = 31 * h + tells(what);
            }
            return h;
        }
    }

    /** A PLAN: its STEPS, and all their TICKS together. */
    private static final class Plan {
        final int[] kind = new int[STEPS];
        final int[] heat = new int[STEPS];
        final int[] length = new int[STEPS];
        boolean there;
        int count;
        int ticks;

        void begin() {
            there = true;
            count = 0;
            ticks = 0;
        }

        void add(int k, int q, int n) {
            if (count >= 0 && count < STEPS) {
                kind[count] = k;
                heat[count] = q;
                length[count] = n;
                count++;
                ticks += n;
            }
        }

        void become(Plan other) {
            begin();
            for (int i = 0; i < other.count; i++) {
                add(other.kindAt(i), other.heatAt(i), other.lengthAt(i));
            }
        }

        boolean has(int i) {
            return i >= 0 && i < count && i < STEPS;
        }

        int kindAt(int i) {
            return has(i) ? kind[i] : REST;
        }

        int heatAt(int i) {
            return has(i) ? heat[i] : 0;
        }

        int lengthAt(int i) {
            return has(i) ? length[i] : 0;
        }

        int numbersAt(int i) {
            return 100 * heatAt(i) + lengthAt(i);
        }

        long digestOn(long from) {
            if (!there) {
                return 31 * from - 1;
            }
            long h = from;
            for (int i = 0; i < count; i++) {
                h = 31 * h + kindAt(i);
                h = 31 * h + numbersAt(i);
            }
            return h;
        }
    }

    /** Reads a SLAB or a PLAN out of a TEXT; fault is where it can't go on (NONE: it read all). */
    private static final class Reader {
        private int place;
        int fault = NONE;

        int readSlab(Text text, Slab into) {
            place = 0;
            fault = NONE;
            into.begin();
            for (int items = 0; items <= SIGNS; items++) {
                skipBlanks(text);
                if (place >= text.size) {
                    return items;
                }
                readItem(text, into);
                if (fault != NONE) {
                    return 0;
                }
            }
            return 0;
        }

        void readPlan(Text text, Plan into) {
            place = 0;
            fault = NONE;
            into.begin();
            for (int i = 0; i <= SIGNS; i++) {
                skipBlanks(text);
                if (place >= text.size) {
                    return;
                }
                readStep(text, into);
                if (fault != NONE) {
                    return;
                }
            }
        }

        private void skipBlanks(Text text) {
            for (int i = 0; i < SIGNS && text.value(place) == ' '; i++) {
                place++;
            }
        }

        private void readItem(Text text, Slab into) {
            int letter = text.value(place);
            if (letter == 't') {
                into.thick = readNumber(text, THINNEST, THICKEST);
            } else if (letter == 'c') {
                into.cold = readNumber(text, 0, 40);
            } else if (letter == 's') {
                into.salt = readNumber(text, 0, 60);
            } else if (letter == 'f') {
                into.fat = readNumber(text, 0, 9);
            } else {
                fault = place;
            }
        }

        private void readStep(Text text, Plan into) {
            int kind = stepKind(text.value(place));
            if (kind == 0 || into.count >= STEPS) {
                fault = place;
                return;
            }
            int q = 0;
            int n = 0;
            if (kind <= BATH) {
                q = readNumber(text, 2, 30);
                if (fault == NONE && text.value(place) != ':') {
                    fault = place;
                }
            } else if (kind != REST) {
                place++;
            }
            if (fault == NONE && kind <= REST) {
                n = readNumber(text, 1, 60);
            }
            if (fault == NONE && into.ticks + n > PLAN_TICKS) {
                fault = place;
            }
            if (fault == NONE) {
                into.add(kind, q, n);
            }
        }

        private static int stepKind(int letter) {
            switch (letter) {
                case 'i': return IRON;
                case 'o': return OVEN;
                case 'b': return BATH;
                case 'r': return REST;
                case 'u': return TURN;
                case 'd': return DRY;
                default: return 0;
            }
        }

        /** The number behind the sign at place, of one or two figures; place comes behind it. */
        private int readNumber(Text text, int low, int high) {
            place++;
            int figures = 0;
            int n = 0;
            while (figures < 2 && within(text.value(place), '0', '9')) {
                n = 10 * n + text.value(place) - '0';
                figures++;
                place++;
            }
            if (figures == 0 || !within(n, low, high)) {
                fault = place;
            }
            return n;
        }
    }

    /** A DISH: a SLAB as it is now, and the PLAN by which it goes on. */
    private static final class Dish {
        final int[] warmth = new int[THICKEST];
        final int[] next = new int[THICKEST];
        final int[] most = new int[THICKEST];
        final int[] juice = new int[THICKEST];
        final int[] wet = new int[2];
        final int[] brown = new int[2];
        final Plan plan = new Plan();
        boolean there;
        int thick = THINNEST;
        int salt;
        int fat;
        int down;
        int tick;
        int stepAt;
        int stepGone;
        int latest;
        int rested;

        /** A SLAB as it is at first, but of a THICK and a SALT of one's own, by no PLAN. */
        void begin(Slab slab, int depths, int salted) {
            thick = Math.max(THINNEST, Math.min(depths, THICKEST));
            salt = salted;
            fat = slab.fat;
            for (int i = 0; i < THICKEST; i++) {
                warmth[i] = 10 * slab.cold;
                most[i] = 10 * slab.cold;
                juice[i] = 100;
            }
            for (int side = 0; side < 2; side++) {
                wet[side] = salted <= 10 ? 20 + 2 * salted : Math.max(50 - salted, 0);
                brown[side] = 0;
            }
            plan.begin();
            down = 0;
            tick = 0;
            stepAt = 0;
            stepGone = 0;
            latest = 0;
            rested = 0;
        }

        void become(Dish other) {
            for (int i = 0; i < THICKEST; i++) {
                warmth[i] = other.warmth[i];
                most[i] = other.most[i];
                juice[i] = other.juice[i];
            }
            for (int side = 0; side < 2; side++) {
                wet[side] = other.wet[side];
                brown[side] = other.brown[side];
            }
            plan.become(other.plan);
            there = other.there;
            thick = other.thick;
            salt = other.salt;
            fat = other.fat;
            down = other.down;
            tick = other.tick;
            stepAt = other.stepAt;
            stepGone = other.stepGone;
            latest = other.latest;
            rested = other.rested;
        }

        void makeByPlan(Slab slab, int depths, int salted, Plan by) {
            begin(slab, depths, salted);
            plan.become(by);
            goOn(by.ticks);
            turnAndDry();
        }

        void makeByWay(Slab slab, int q, int n, int t) {
            begin(slab, slab.thick, slab.salt);
            for (int i = 0; i < n; i++) {
                goByWay(q, t);
            }
        }

        void goByWay(int q, int t) {
            if (t > 0 && tick > 0 && tick % t == 0) {
                down = 1 - down;
            }
            heat(IRON, q);
        }

        /** The TICKS (1 .. 200) of a WAY till THE MIDDLE has a MOST of v or more, or NONE. */
        int ticksTill(Slab slab, int depths, int q, int t, int v) {
            begin(slab, depths, slab.salt);
            for (int n = 1; n <= WAIT; n++) {
                goByWay(q, t);
                if (middleMost() >= v) {
                    return n;
                }
            }
            return NONE;
        }

        void goOn(int n) {
            for (int i = 0; i < n; i++) {
                turnAndDry();
                if (plan.has(stepAt)) {
                    heat(plan.kindAt(stepAt), plan.heatAt(stepAt));
                    stepGone++;
                    if (stepGone >= plan.lengthAt(stepAt)) {
                        stepAt++;
                        stepGone = 0;
                    }
                } else {
                    heat(REST, 0);
                }
            }
        }

        private void turnAndDry() {
            for (int i = 0; i < STEPS && plan.kindAt(stepAt) > REST; i++) {
                if (plan.kindAt(stepAt) == TURN) {
                    down = 1 - down;
                } else {
                    wet[0] = 0;
                    wet[1] = 0;
                }
                stepAt++;
            }
        }

        void restFor(int n) {
            for (int i = 0; i < n; i++) {
                heat(REST, 0);
            }
        }

        int greatestAtRest(int n) {
            int greatest = middleWarmth();
            for (int i = 0; i < n; i++) {
                heat(REST, 0);
                greatest = Math.max(greatest, middleWarmth());
            }
            return greatest;
        }

        /** One TICK. */
        void heat(int kind, int q) {
            spread(kind, q);
            boil(0, 0);
            boil(1, thick - 1);
            if (kind == BATH) {
                wet[0] = 30;
                wet[1] = 30;
            }
            for (int i = 0; i < thick && i < THICKEST; i++) {
                int w = warmth[i];
                most[i] = Math.max(most[i], w);
                juice[i] = Math.max(juice[i] - Math.max(w - 550, 0) / 100, 0);
            }
            browns(0, 0);
            browns(1, thick - 1);
            latest = kind;
            rested = kind == REST ? rested + 1 : 0;
            tick++;
        }

        private void spread(int kind, int q) {
            int last = thick - 1;
            if (last < 1 || last >= THICKEST) {
                return;
            }
            for (int i = 1; i < last; i++) {
                next[i] = warmth[i] + (warmth[i - 1] + warmth[i + 1] - 2 * warmth[i]) / 4;
            }
            next[0] = warmth[0] + (warmth[1] - warmth[0]) / 4 + fromOutside(kind, q, down == 0, warmth[0]);
            next[last] = warmth[last] + (warmth[last - 1] - warmth[last]) / 4
                    + fromOutside(kind, q, down == 1, warmth[last]);
            for (int i = 0; i <= last; i++) {
                warmth[i] = next[i];
            }
        }

        private static int fromOutside(int kind, int q, boolean isDown, int w) {
            switch (kind) {
                case IRON: return isDown ? (100 * q - w) / 4 : (200 - w) / 16;
                case OVEN: return (100 * q - w) / 12;
                case BATH: return (100 * q - w) / 2;
                default: return (200 - w) / 20;
            }
        }

        private void boil(int side, int i) {
            if (i < 0 || i >= THICKEST || side < 0 || side > 1) {
                return;
            }
            if (wet[side] > 0 && warmth[i] > 1000) {
                wet[side] = Math.max(wet[side] - (warmth[i] - 1000) / 50 - 1, 0);
                warmth[i] = 1000;
            }
        }

        private void browns(int side, int i) {
            if (i < 0 || i >= THICKEST || side < 0 || side > 1) {
                return;
            }
            if (wet[side] == 0 && warmth[i] >= 1400) {
                brown[side] += (warmth[i] - 1400) / 100 + fat / 4;
            }
        }

        int middle() {
            return thick / 2;
        }

        boolean has(int i) {
            return i >= 0 && i < thick && i < THICKEST;
        }

        int warmthAt(int i) {
            return has(i) ? warmth[i] : 0;
        }

        int mostAt(int i) {
            return has(i) ? most[i] : 0;
        }

        int juiceAt(int i) {
            return has(i) ? juice[i] : 0;
        }

        int middleWarmth() {
            return warmthAt(middle());
        }

        int middleMost() {
            return mostAt(middle());
        }

        int depthTells(int i, int what) {
            switch (what) {
                case 0: return warmthAt(i);
                case 1: return mostAt(i);
                default: return juiceAt(i);
            }
        }

        int wetOf(int side) {
            return side >= 0 && side < 2 ? wet[side] : 0;
        }

        int brownOf(int side) {
            return side >= 0 && side < 2 ? brown[side] : 0;
        }

        int skinTells(int side, int what) {
            switch (what) {
                case 0: return kindOf(side);
                case 1: return wetOf(side);
                case 2: return brownOf(side);
                default: return down == side ? 1 : 0;
            }
        }

        /** The KIND of a SKIN as it is: 0 SKIN, 1 WET, 2 COOLING, 3 BROWNING, 4 RESTED, 5 SALTED, 6 BURNT. */
        int kindOf(int side) {
            if (brownOf(side) >= 20) {
                return brownOf(side) > 100 ? 6 : 3;
            }
            if (wetOf(side) > 0) {
                return salt > 0 ? 5 : 1;
            }
            if (latest == REST) {
                return 4;
            }
            return latest == IRON && down != side ? 2 : 0;
        }

        int markTells(int side, int kind) {
            switch (kind) {
                case 1: return wetOf(side);
                case 2: return warmthAt(side == 0 ? 0 : thick - 1);
                case 3: return brownOf(side);
                case 4: return rested;
                case 5: return salt;
                default: return brownOf(side) - 100;
            }
        }

        int crust() {
            return Math.min(brown[0], brown[1]);
        }

        int justSo(int a, int b) {
            int n = 0;
            for (int i = 0; i < thick; i++) {
                n += within(mostAt(i), a, b) ? 1 : 0;
            }
            return n;
        }

        int pink() {
            return justSo(PINK_FROM, GREY_FROM - 1);
        }

        /** 2 GREY, 1 PINK, 0 RED. */
        int colour(int i) {
            if (mostAt(i) >= GREY_FROM) {
                return 2;
            }
            return mostAt(i) >= PINK_FROM ? 1 : 0;
        }

        int unlikeRow(Row row) {
            int n = 0;
            for (int i = 0; i < thick; i++) {
                n += row.value(i) != colour(i) ? 1 : 0;
            }
            return n;
        }

        int allJuice() {
            int sum = 0;
            for (int i = 0; i < thick; i++) {
                sum += juiceAt(i);
            }
            return sum;
        }

        /** All JUICE that is lost as it is CUT. */
        int lossNow() {
            int sum = 0;
            for (int i = 0; i < thick; i++) {
                int x = Math.max(warmthAt(i) - 400, 0) / 100;
                sum += Math.min(juiceAt(i), juiceAt(i) * x / 20);
            }
            return sum;
        }

        long digestOn(long from) {
            if (!there) {
                return 31 * from - 1;
            }
            long h = from;
            for (int i = 0; i < thick; i++) {
                for (int what = 0; what <= 2; what++) {
                    h = 31 * h + depthTells(i, what);
                }
            }
            for (int side = 0; side < 2; side++) {
                for (int what = 0; what <= 3; what++) {
                    h = 31 * h + skinTells(side, what);
                }
            }
            return h;
        }
    }

    /** One fire for up to four: what each loses by the set of those behind it, and the order that loses least. */
    private static final class Fire {
        private final int[] loss = new int[64];
        private final int[] best = new int[4];
        int least;

        void setLoss(int k, int behind, int lost) {
            if (within(k, 0, 3) && within(behind, 0, 15)) {
                loss[16 * k + behind] = lost;
            }
        }

        private int lossOf(int k, int behind) {
            return within(k, 0, 3) && within(behind, 0, 15) ? loss[16 * k + behind] : 0;
        }

        int bestAt(int i) {
            return within(i, 0, 3) ? best[i] : 0;
        }

        /** Goes through all orders by numbers: an order is read as the figures of a number by fours. */
        void findBest(int set) {
            int many = Integer.bitCount(set);
            least = -1;
            for (int order = 0; order < 1 << 2 * many; order++) {
                int lost = lossOfOrder(set, order, many);
                if (lost >= 0 && (least < 0 || lost < least)) {
                    least = lost;
                    for (int i = 0; i < many && i < best.length; i++) {
                        best[i] = figureOf(order, i, many);
                    }
                }
            }
        }

        private static int figureOf(int order, int i, int many) {
            return order >> 2 * (many - 1 - i) & 3;
        }

        /** What an order loses in all; -1: it is none of this set. */
        private int lossOfOrder(int set, int order, int many) {
            int left = set;
            int lost = 0;
            for (int i = 0; i < many; i++) {
                int k = figureOf(order, i, many);
                if (!isIn(k, left)) {
                    return -1;
                }
                left &= ~(1 << k);
                lost += lossOf(k, left);
            }
            return lost;
        }
    }
}
