import java.lang.reflect.Method;
import java.util.Map;
import java.util.TreeMap;

/**
 * A SlabTurn as the tests use it: an object is used for at most 512 calls, what later ones answer is free.
 * So a test that goes on behind the 512th call of an object fails.
 */
final class Kitchen {
    private static final int CALLS = 512;

    private final SlabTurn x = new SlabTurn();
    private int left = CALLS;

    /** The calls of the document by their names. */
    static Map<String, Method> calls() {
        Map<String, Method> all = new TreeMap<>();
        for (Method m : SlabTurn.class.getMethods()) {
            if (m.getDeclaringClass() == SlabTurn.class) {
                all.put(m.getName(), of(m));
            }
        }
        return all;
    }

    private static Method of(Method m) {
        try {
            return Kitchen.class.getDeclaredMethod(m.getName(), m.getParameterTypes());
        } catch (NoSuchMethodException e) {
            throw new IllegalStateException("the document has no " + m, e);
        }
    }

    /** How many calls there still may be. */
    int left() {
        return left;
    }

    private SlabTurn next() {
        if (left == 0) {
            throw new IllegalStateException("more than " + CALLS + " calls of one object");
        }
        left--;
        return x;
    }

    int row(int r, int n) {
        return next().row(r, n);
    }

    int lay(int r, int i, int v) {
        return next().lay(r, i, v);
    }

    int at(int r, int i) {
        return next().at(r, i);
    }

    int tear(int r) {
        return next().tear(r);
    }

    int copy(int r, int i, int to, int j, int n) {
        return next().copy(r, i, to, j, n);
    }

    int mean(int r) {
        return next().mean(r);
    }

    int text(int t, int n) {
        return next().text(t, n);
    }

    int put(int t, int i, int v) {
        return next().put(t, i, v);
    }

    int fault(int t, boolean plan) {
        return next().fault(t, plan);
    }

    int slab(int k, int t) {
        return next().slab(k, t);
    }

    int plan(int k, int t) {
        return next().plan(k, t);
    }

    int about(int k, int what) {
        return next().about(k, what);
    }

    int step(int k, int i) {
        return next().step(k, i);
    }

    int dish(int slab, int plan) {
        return next().dish(slab, plan);
    }

    int go(int n) {
        return next().go(n);
    }

    int depth(int k, int what) {
        return next().depth(k, what);
    }

    int skin(int side, int what) {
        return next().skin(side, what);
    }

    int mark(int side, int kind) {
        return next().mark(side, kind);
    }

    int keep(int k) {
        return next().keep(k);
    }

    int on(int k) {
        return next().on(k);
    }

    int just(int a, int b) {
        return next().just(a, b);
    }

    int slice(int r) {
        return next().slice(r);
    }

    int cut(int n) {
        return next().cut(n);
    }

    int rise() {
        return next().rise();
    }

    int wire(int d) {
        return next().wire(d);
    }

    int way(int slab, int q, int n, int t) {
        return next().way(slab, q, n, t);
    }

    int often(int slab, int q, int n, int t) {
        return next().often(slab, q, n, t);
    }

    int turns(int slab, int q, int n) {
        return next().turns(slab, q, n);
    }

    int most(int slab, int a, int b, int v) {
        return next().most(slab, a, b, v);
    }

    int off(int slab, int q, int t, int w) {
        return next().off(slab, q, t, w);
    }

    int rest(int slab, int plan) {
        return next().rest(slab, plan);
    }

    int salt(int slab, int plan) {
        return next().salt(slab, plan);
    }

    int thick(int slab, int plan, int a, int b) {
        return next().thick(slab, plan, a, b);
    }

    int same(int slab, int other, int q, int t, int v, int w) {
        return next().same(slab, other, q, t, v, w);
    }

    int order(int set, int r) {
        return next().order(set, r);
    }

    int both(int slab, int other, int q, int v, int w) {
        return next().both(slab, other, q, v, w);
    }

    int safe(int slab, int q) {
        return next().safe(slab, q);
    }

    int which(int r) {
        return next().which(r);
    }

    int odds(int r, int plan) {
        return next().odds(r, plan);
    }

    int rule(int slab, int q, int t, int v) {
        return next().rule(slab, q, t, v);
    }

    int asked() {
        return next().asked();
    }

    long upper() {
        return next().upper();
    }

    long lower() {
        return next().lower();
    }

    int count(int what) {
        return next().count(what);
    }

    int finding() {
        return next().finding();
    }

    int findings(int f) {
        return next().findings(f);
    }

    long digest() {
        return next().digest();
    }
}
