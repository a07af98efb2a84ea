/** Many runs of 512 calls, made from a fixed seed, answered by the class and by its twin. */
public final class TwinTest {
    private static final int RUNS = 3000, CALLS = 512;
    private static final Due due = new Due();
    private static final long[] failures = new long[13];
    private static long seed = 20261116;

    private LoaderModels x = new LoaderModels();
    private Twin y = new Twin();
    private int names;
    private int firstName;
    private boolean isPlain;

    public static void main(String[] args) {
        for (int run = 0; run < RUNS; run++) new TwinTest().go(run);
        // A run that never meets a FAILURE proves nothing of it.
        for (int f = 1; f <= 12; f++) due.is("FAILURE " + f + " was met", 1, failures[f] > 50 ? 1 : 0);
        due.end();
    }

    private static int any(int n) {
        seed = seed * 6364136223846793005L + 1442695040888963407L;
        return (int) ((seed >>> 33) % n);
    }

    /** Mostly a number below n, now and then one that is wrong. */
    private static int near(int n) {
        int draw = any(60);
        if (draw == 0) return -1;
        if (draw == 1) return n;
        if (draw == 2) return any(2) == 0 ? Integer.MAX_VALUE : Integer.MIN_VALUE;
        return any(Math.max(n, 1));
    }

    private int name() {
        return any(50) == 0 ? near(40) : any(6) == 0 ? any(5) : firstName + any(names);
    }

    private void go(int run) {
        names = 2 + any(24);
        firstName = any(3) == 0 ? 39 - names : 5;
        int slant = any(4);
        // Plain files, many of them DEFINED: else the ROOM for classes is hardly ever full.
        isPlain = slant == 1;
        if (isPlain) names = 20 + any(10);
        if (isPlain) firstName = 5;
        for (int i = 0; i < CALLS; i++) {
            int kind = any(22);
            if (i < 60 && any(2) == 0) kind = any(5);
            else if (slant == 0 && any(2) == 0) kind = 4 + any(6);
            else if (isPlain && any(2) == 0) kind = 6;
            one(run + "/" + i, kind);
        }
    }

    private void one(String at, int kind) {
        int loader = near(y.loaders.size()), file = near(y.files.size()), n = name();
        int c = near(y.classes.size()), d = near(y.classes.size());
        int o = near(y.objects.size()), r = near(y.rows.size()), i = near(8);
        switch (kind) {
            case 0 -> due.is(at + " loader " + loader, y.loader(loader), x.loader(loader));
            case 1 -> { int b = near(41); due.is(at + " bound", y.bound(loader, b), x.bound(loader, b)); }
            case 2 -> {
                int inner = any(12) == 0 ? name() : n, above = isPlain || any(3) == 0 ? 0 : name();
                int content = any(10) == 0 ? 0 : any(8) == 0 ? (int) seed : any(2001) - 1000;
                boolean isFinal = any(12) == 0;
                due.is(at + " file", y.file(n, inner, above, content, isFinal), x.file(n, inner, above, content, isFinal));
            }
            case 3 -> {
                int m = near(4), k = near(3), a = any(7) == 0 ? (int) seed : any(9) - 4, b = any(7) == 0 ? (int) seed : any(100);
                due.is(at + " method", y.method(file, m, k, a, b), x.method(file, m, k, a, b));
            }
            case 4 -> due.is(at + " bear", y.bear(loader, file), x.bear(loader, file));
            case 5 -> fine(at + " load " + loader + " " + n, y.load(loader, n), x.load(loader, n));
            case 6 -> fine(at + " define " + loader + " " + file, y.define(loader, file), x.define(loader, file));
            case 7 -> due.is(at + " known", y.known(loader, n), x.known(loader, n));
            case 8 -> fine(at + " agree", y.agree(c, d, n), x.agree(c, d, n));
            case 9 -> due.is(at + " apart", y.apart(c, d), x.apart(c, d));
            case 10 -> fine(at + " start", y.start(c), x.start(c));
            case 11 -> due.is(at + " value", y.value(c), x.value(c));
            case 12 -> fine(at + " make", y.make(c), x.make(c));
            case 13 -> fine(at + " cast", y.cast(o, c), x.cast(o, c));
            case 14 -> due.is(at + " row", y.row(c, i), x.row(c, i));
            case 15 -> fine(at + " put", y.put(r, i, o), x.put(r, i, o));
            case 16 -> fine(at + " get", y.get(r, i), x.get(r, i));
            case 17 -> fine(at + " castRow", y.castRow(r, c), x.castRow(r, c));
            case 18 -> {
                int m = near(4);
                long arg = any(5) == 0 ? seed : any(20) - 10;
                long want = y.call(o, m, arg);
                due.is(at + " call", want, x.call(o, m, arg));
                if (want == Due.REFUSED + 20) failures[10]++;
            }
            case 19 -> { int what = near(5); due.is(at + " about", y.about(c, what), x.about(c, what)); }
            case 20 -> { int back = near(31); due.is(at + " noted", y.noted(back), x.noted(back)); }
            default -> { int what = near(7); due.is(at + " told", y.told(what), x.told(what)); }
        }
    }

    private static void fine(String call, int want, int got) {
        due.is(call, want, got);
        if (want <= -11) failures[-10 - want]++;
    }
}
