import java.util.function.ToIntFunction;
import java.util.function.ToLongFunction;

/**
 * "Refusals change nothing", nor does a call that only asks: of two objects one gets every call of a run, the other
 * only those that were not refused and do not only ask; they must answer alike.
 */
public final class RefusalsTest {
    private static final int RUNS = 4000, CALLS = 120;
    private static final Due due = new Due();
    private static final long[] refusals = new long[6];
    private static long seed = 7;

    private final LoaderModels all = new LoaderModels();
    private final LoaderModels some = new LoaderModels();
    private final int run;
    // Counted here, since asking for them would take more than the 512 calls of an object.
    private int loaders = 1, files = 5, classes, objects, rows;

    private RefusalsTest(int run) {
        this.run = run;
    }

    public static void main(String[] args) {
        for (int run = 0; run < RUNS; run++) new RefusalsTest(run).go();
        for (int r = 2; r <= 5; r++) due.is("refusal -" + r + " was met", 1, refusals[r] > 500 ? 1 : 0);
        due.end();
    }

    private static int any(int n) {
        seed = seed * 6364136223846793005L + 1442695040888963407L;
        return (int) ((seed >>> 33) % n);
    }

    /** Often a number that is not 0 to count - 1. */
    private static int often(int count) {
        if (any(5) == 0 || count == 0) return Due.notBelow(count)[any(6)];
        return any(count);
    }

    private void go() {
        load(0, 4);
        fill(run % 6);
        for (int i = 0; i < CALLS; i++) one(any(22));
        compare();
    }

    /** FULL is met only where a limit is reached early. */
    private void fill(int what) {
        for (int i = 0; i < 61; i++) {
            if (what == 1 && i < 8) loader(0);
            if (what == 2 && i < 26) file(5 + i % 9, 0, 1);
            if (what == 3) make(0);
            if (what == 4 && i < 21) row(i % 2, i % 9);
        }
    }

    private void one(int kind) {
        int loader = often(loaders), file = often(files), c = often(classes), d = often(classes);
        int o = often(objects), r = often(rows);
        int name = any(9) == 0 ? often(40) : 3 + any(12), n = often(9), m = often(4);
        switch (kind) {
            case 0 -> loader(loader);
            case 1 -> unlessRefused(x -> x.bound(loader, n * 5));
            case 2 -> file(name, c, n);
            case 3 -> unlessRefused(x -> x.method(file, m, n % 4, d, o));
            case 4 -> unlessRefused(x -> x.bear(loader, file));
            case 5, 6 -> load(loader, name);
            case 7 -> define(loader, file);
            case 8 -> unlessRefused(x -> x.agree(c, d, name));
            case 9 -> unlessRefused(x -> x.start(c));
            case 10 -> make(c);
            case 11 -> row(c, n);
            case 12 -> unlessRefused(x -> x.put(r, n, o));
            case 13 -> unlessRefused(x -> x.cast(o, c));
            case 14 -> unlessRefused(x -> x.castRow(r, c));
            case 15 -> unlessRefused(x -> x.get(r, n));
            case 16 -> unlessRefused(isBelow(c, classes) ? 0 : -2, x -> x.value(c));
            case 17 -> unlessRefused(!isBelow(o, objects) ? -2 : !isBelow(m, 4) ? -3 : 0, x -> x.call(o, m, n));
            case 18 -> all.known(loader, name);
            case 19 -> all.apart(c, d);
            case 20 -> all.about(c, n);
            default -> all.noted(n);
        }
    }

    private static boolean isBelow(int i, int count) {
        return i >= 0 && i < count;
    }

    private void loader(int parent) {
        if (unlessRefused(x -> x.loader(parent)) >= 0) loaders++;
    }

    private void file(int name, int above, int content) {
        if (unlessRefused(x -> x.file(name, name, above, content, content == 3)) >= 0) files++;
    }

    private void load(int loader, int name) {
        unlessRefused(x -> x.load(loader, name));
        classes = all.told(2);
    }

    private void define(int loader, int file) {
        unlessRefused(x -> x.define(loader, file));
        classes = all.told(2);
    }

    private void make(int c) {
        if (unlessRefused(x -> x.make(c)) >= 0) objects++;
    }

    private void row(int c, int n) {
        if (unlessRefused(x -> x.row(c, n)) >= 0) rows++;
    }

    private int unlessRefused(ToIntFunction<LoaderModels> call) {
        int answer = call.applyAsInt(all);
        if (answer >= -5 && answer <= -2) refusals[-answer]++;
        else due.is("run " + run, answer, call.applyAsInt(some));
        return answer;
    }

    /** A long may look like a refusal and be none, so that what refuses the call, or 0, is told. */
    private void unlessRefused(int refusal, ToLongFunction<LoaderModels> call) {
        long answer = call.applyAsLong(all);
        due.is("run " + run, refusal == 0 ? call.applyAsLong(some) : Due.REFUSED - refusal, answer);
    }

    private void both(ToIntFunction<LoaderModels> call) {
        due.is("run " + run + " at its end", call.applyAsInt(all), call.applyAsInt(some));
    }

    private void compare() {
        for (int i = 0; i < 31; i++) bothAt(i);
        for (int l = 0; l < loaders; l++) {
            for (int n = 0; n < 16; n++) bothKnow(l, n);
        }
        for (int r = 0; r < rows; r++) {
            for (int i = 0; i < 3; i++) bothHave(r, i);
        }
    }

    private void bothAt(int i) {
        both(x -> x.noted(i));
        if (i < 7) both(x -> x.told(i));
        if (i < classes) both(x -> x.about(i, 4));
        if (i > 0 && i < loaders) both(x -> x.bound(i, 0));
    }

    private void bothKnow(int loader, int name) {
        both(x -> x.known(loader, name));
    }

    private void bothHave(int row, int i) {
        both(x -> x.get(row, i));
    }
}
