/** No call ever throws or fails to end, for any arguments in any state, beyond the 512th call, too (LANGUAGE.md, rule 7). */
public final class WildTest {
    private static final int OBJECTS = 60, CALLS = 20000;
    private static final int[] EDGES = {
        -1, 0, 1, 2, 3, 4, 5, 7, 8, 9, 19, 20, 21, 29, 30, 31, 39, 40, 41, 59, 60, 61, -2, -3,
        Integer.MIN_VALUE, Integer.MIN_VALUE + 1, Integer.MAX_VALUE, Integer.MAX_VALUE - 1};
    private static final Due due = new Due();
    private static long seed = 11;

    public static void main(String[] args) {
        for (int i = 0; i < OBJECTS; i++) go(i);
        due.end();
    }

    private static int any(int n) {
        seed = seed * 6364136223846793005L + 1442695040888963407L;
        return (int) ((seed >>> 33) % n);
    }

    private static void go(int run) {
        LoaderModels x = new LoaderModels();
        for (int i = 0; i < CALLS; i++) {
            int kind = any(22);
            int[] a = {wild(), wild(), wild(), wild(), wild()};
            try {
                one(x, kind, a);
            } catch (RuntimeException | StackOverflowError e) {
                due.is("run " + run + ", call " + i + " of kind " + kind + ": " + e, 0, 1);
            }
        }
        due.is("it is there at the end", 1, x.told(0) >= 1 && x.told(0) <= 8 ? 1 : 0);
    }

    private static int wild() {
        int draw = any(10);
        return draw == 0 ? (int) seed : draw < 4 ? EDGES[any(EDGES.length)] : any(draw < 7 ? 8 : 30);
    }

    private static long one(LoaderModels x, int kind, int[] a) {
        switch (kind) {
            case 0: return x.loader(a[0]);
            case 1: return x.bound(a[0], a[1]);
            case 2: return x.file(a[0], any(3) == 0 ? a[1] : a[0], a[2], a[3], any(9) == 0);
            case 3: return x.method(a[0], a[1], a[2], a[3], a[4]);
            case 4: return x.bear(a[0], a[1]);
            case 5: return x.load(a[0], a[1]);
            case 6: return x.define(a[0], a[1]);
            case 7: return x.known(a[0], a[1]);
            case 8: return x.agree(a[0], a[1], a[2]);
            case 9: return x.apart(a[0], a[1]);
            case 10: return x.start(a[0]);
            case 11: return x.value(a[0]);
            case 12: return x.make(a[0]);
            case 13: return x.cast(a[0], a[1]);
            case 14: return x.row(a[0], a[1]);
            case 15: return x.put(a[0], a[1], a[2]);
            case 16: return x.get(a[0], a[1]);
            case 17: return x.castRow(a[0], a[1]);
            case 18: return x.call(a[0], a[1], seed);
            case 19: return x.about(a[0], a[1]);
            case 20: return x.noted(a[0]);
            default: return x.told(a[0]);
        }
    }
}
