/** Promises 12 to 14: start, value, make. */
public final class StartingTest {
    private static final Due due = new Due();

    public static void main(String[] args) {
        refusals();
        statics();
        order();
        failures();
        makes();
        due.end();
    }

    private static void refusals() {
        LoaderModels x = new LoaderModels();
        for (int c : new int[] {0, -1, 40, Integer.MAX_VALUE, Integer.MIN_VALUE}) {
            due.is("start(" + c + ")", -2, x.start(c));
            due.is("value(" + c + ")", Due.REFUSED + 2, x.value(c));
            due.is("make(" + c + ")", -2, x.make(c));
        }
        due.is("told(6)", 0, x.told(6));
    }

    private static void statics() {
        int[] contents = {1, -1, 3, -3, 7, -7, 1000, 1001, -1001, Integer.MAX_VALUE, Integer.MIN_VALUE};
        LoaderModels x = new LoaderModels();
        for (int i = 0; i < contents.length; i++) {
            x.file(5 + i, 5 + i, 0, contents[i], false);
            int c = x.define(0, 5 + i);
            due.is("value with CONTENT " + contents[i], 1000 / contents[i], x.value(c));
            due.is("it is STARTED", 1, x.about(c, 4));
        }
    }

    private static void order() {
        LoaderModels x = new LoaderModels();
        x.file(5, 5, 4, 2, false);
        due.is("define", 2, x.define(0, 5));
        due.is("start(1)", 1, x.start(1));
        for (int c = 0; c < 3; c++) due.is("about(" + c + ", 4)", c < 2 ? 1 : 0, x.about(c, 4));
        due.is("start(2)", 1, x.start(2));
        due.is("about(2, 4)", 1, x.about(2, 4));
        x.method(5, 0, 2, 1, 0);
        due.is("make(2)", 0, x.make(2));
        due.is("call", 507, x.call(0, 0, 7));
        due.is("once", 1, x.start(2));
        due.is("the STATIC stays", 507, x.value(2));
        due.is("make again", 1, x.make(2));
        due.is("the STATIC stays", 507, x.value(2));
        LoaderModels y = new LoaderModels();
        y.load(0, 4);
        due.is("row starts nothing", 0, y.row(1, 3));
        due.is("about", 0, y.about(1, 4));
        due.is("value starts those above", 1000, y.value(1));
        due.is("about(0, 4)", 1, y.about(0, 4));
    }

    private static void failures() {
        LoaderModels x = new LoaderModels();
        x.file(5, 5, 4, 0, false);
        x.file(6, 6, 5, 8, false);
        x.file(7, 7, 6, 8, false);
        x.file(8, 8, 5, 8, false);
        for (int f = 5; f <= 8; f++) due.is("define", f - 3, x.define(0, f));
        due.is("START goes on", -19, x.start(4));
        due.is("told(6)", 9, x.told(6));
        int[] states = {1, 1, 2, 2, 2, 0};
        for (int c = 0; c < states.length; c++) due.is("about(" + c + ", 4)", states[c], x.about(c, 4));
        due.is("again", -12, x.start(4));
        due.is("again", -12, x.start(3));
        due.is("again", -12, x.start(2));
        due.is("told(6)", 2, x.told(6));
        due.is("below one that FAILED before", Due.REFUSED + 12, x.value(5));
        due.is("it has FAILED, too", 2, x.about(5, 4));
        due.is("what was started stays", 1000, x.value(1));
        due.is("make", -12, x.make(5));
        due.is("told(3)", 0, x.told(3));
        LoaderModels y = new LoaderModels();
        y.file(5, 5, 0, 0, false);
        y.define(0, 5);
        due.is("value", Due.REFUSED + 19, y.value(1));
        due.is("value", Due.REFUSED + 12, y.value(1));
        due.is("told(6)", 2, y.told(6));
        LoaderModels z = new LoaderModels();
        z.file(5, 5, 0, 0, false);
        z.define(0, 5);
        due.is("make", -19, z.make(1));
        due.is("make", -12, z.make(1));
        due.is("make(0)", 0, z.make(0));
    }

    private static void makes() {
        LoaderModels x = new LoaderModels();
        x.load(0, 1);
        x.file(9, 9, 0, 0, false);
        x.define(0, 5);
        for (int o = 0; o < 60; o++) due.is("make " + o, o, x.make(0));
        due.is("the 61st", -5, x.make(1));
        due.is("FULL starts nothing", 0, x.about(1, 4));
        due.is("FULL before FAILURES", -5, x.make(2));
        due.is("FULL starts nothing", 0, x.about(2, 4));
        due.is("UNKNOWN first", -2, x.make(3));
        due.is("told(3)", 60, x.told(3));
        due.is("cast(59, 0)", 1, x.cast(59, 0));
        due.is("cast(60, 0)", -2, x.cast(60, 0));
        due.is("call(60, 0, 0)", Due.REFUSED + 2, x.call(60, 0, 0));
        due.is("told(6)", 0, x.told(6));
        LoaderModels y = new LoaderModels();
        y.load(0, 1);
        y.make(1);
        due.is("make starts", 1, y.about(1, 4));
        due.is("those above, too", 1, y.about(0, 4));
    }
}
