/** Promises 21 to 23: about, noted, told. */
public final class TellingTest {
    private static final Due due = new Due();

    public static void main(String[] args) {
        abouts();
        notes();
        counts();
        latestFailure();
        due.end();
    }

    private static void abouts() {
        LoaderModels x = new LoaderModels();
        x.loader(0);
        due.is("5", 5, x.file(9, 9, 3, 0, false));
        due.is("6", 6, x.file(9, 9, 3, 4, false));
        x.bear(1, 6);
        due.is("load", 2, x.load(1, 9));
        int[] answers = {9, 1, 1, 6, 0};
        for (int what = 0; what < 5; what++) due.is("about(2, " + what + ")", answers[what], x.about(2, what));
        due.is("none above NAME 0", -1, x.about(0, 2));
        due.is("about(2, 5)", -3, x.about(2, 5));
        due.is("about(2, -1)", -3, x.about(2, -1));
        due.is("about(3, 5), UNKNOWN first", -2, x.about(3, 5));
        due.is("about(-1, 0)", -2, x.about(-1, 0));
        x.start(2);
        due.is("STARTED", 1, x.about(2, 4));
        due.is("define", 3, x.define(0, 5));
        x.start(3);
        due.is("FAILED", 2, x.about(3, 4));
        due.is("its LOADER", 0, x.about(3, 1));
    }

    private static void notes() {
        LoaderModels x = new LoaderModels();
        x.loader(0);
        for (int n = 0; n < 20; n++) {
            due.is("ABSENT", -11, x.load(1, 10 + n));
            int kept = Math.min(2 * n + 2, 30);
            for (int i = 0; i < kept; i++) {
                int name = 10 + n - i / 2;
                due.is("noted(" + i + ")", i % 2 == 0 ? name : 64 + name, x.noted(i));
            }
            due.is("noted(" + kept + ")", -1, x.noted(kept));
            due.is("told(5)", 2 * n + 2, x.told(5));
        }
        due.is("noted(-1)", -1, x.noted(-1));
        due.is("noted(MAX)", -1, x.noted(Integer.MAX_VALUE));
        due.is("noted(MIN)", -1, x.noted(Integer.MIN_VALUE));
        x.load(0, 0);
        x.load(0, 0);
        due.is("one that is KNOWN is NOTED, too", 42, x.told(5));
        due.is("noted(0)", 0, x.noted(0));
        due.is("noted(1)", 0, x.noted(1));
        due.is("noted(2)", 29, x.noted(2));
        x.define(0, 1);
        due.is("define LOADS what is above", 43, x.told(5));
    }

    private static void counts() {
        LoaderModels x = new LoaderModels();
        due.is("told(7)", -3, x.told(7));
        due.is("told(-1)", -3, x.told(-1));
        x.loader(0);
        x.loader(0);
        x.file(5, 5, 0, 1, false);
        x.load(0, 3);
        x.make(0);
        x.make(0);
        x.make(1);
        x.row(0, 1);
        int[] counts = {3, 6, 2, 3, 1, 2, 0};
        for (int what = 0; what < counts.length; what++) due.is("told(" + what + ")", counts[what], x.told(what));
    }

    private static void latestFailure() {
        LoaderModels x = new LoaderModels();
        x.load(0, 9);
        due.is("1", 1, x.told(6));
        x.load(0, 0);
        x.load(5, 0);
        x.load(0, 99);
        due.is("it stays", 1, x.told(6));
        x.define(0, 0);
        due.is("3", 3, x.told(6));
        x.make(0);
        x.load(0, 1);
        x.cast(0, 1);
        due.is("5", 5, x.told(6));
        x.row(1, 1);
        x.put(0, 0, 0);
        due.is("8", 8, x.told(6));
        x.get(0, 1);
        due.is("11", 11, x.told(6));
        x.call(0, 0, 0);
        due.is("10", 10, x.told(6));
        x.row(0, 1);
        x.castRow(1, 1);
        due.is("5", 5, x.told(6));
        x.loader(0);
        x.file(9, 9, 0, 0, false);
        x.define(1, 0);
        due.is("4", 4, x.told(6));
        x.define(0, 5);
        x.value(2);
        due.is("9", 9, x.told(6));
        x.value(2);
        due.is("2", 2, x.told(6));
    }
}
