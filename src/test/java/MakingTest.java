/** Promises 1 to 6: a new object, loader, bound, file, method, bear. */
public final class MakingTest {
    private static final Due due = new Due();

    public static void main(String[] args) {
        newObject();
        loaders();
        bounds();
        files();
        methods();
        bears();
        due.end();
    }

    private static void newObject() {
        LoaderModels x = new LoaderModels();
        int[] counts = {1, 5, 0, 0, 0, 0, 0};
        for (int what = 0; what < counts.length; what++) due.is("new, told(" + what + ")", counts[what], x.told(what));
        due.is("new, noted(0)", -1, x.noted(0));
        due.is("new, about(0, 0)", -2, x.about(0, 0));
        for (int name = 0; name < 40; name++) due.is("new, known(0, " + name + ")", -1, x.known(0, name));
        due.is("new, get(0, 0)", -2, x.get(0, 0));
        for (int name = 5; name < 40; name++) due.is("the MACHINE has no " + name, -11, x.load(0, name));
        // Files 0 to 4: NAME and INNER the same, ABOVE 0, CONTENT 1, not FINAL, no METHODS.
        for (int name = 4; name >= 0; name--) {
            int c = x.load(0, name);
            due.is("class of NAME " + name, name == 4 ? 1 : name == 0 ? 0 : 5 - name, c);
            due.is("its NAME", name, x.about(c, 0));
            due.is("its LOADER", 0, x.about(c, 1));
            due.is("the class above", name == 0 ? -1 : 0, x.about(c, 2));
            due.is("its file", name, x.about(c, 3));
            due.is("its start", name == 0 ? 1 : 0, x.about(c, 4));
            due.is("its STATIC", 1000, x.value(c));
            int o = x.make(c);
            for (int m = 0; m < 4; m++) due.is("METHOD " + m, Due.REFUSED + 20, x.call(o, m, 1));
        }
        LoaderModels y = new LoaderModels();
        due.is("another object is new", 0, y.told(2));
    }

    private static void loaders() {
        LoaderModels x = new LoaderModels();
        due.is("loader(-1)", -2, x.loader(-1));
        due.is("loader(1)", -2, x.loader(1));
        due.is("loader(MAX)", -2, x.loader(Integer.MAX_VALUE));
        due.is("loader(MIN)", -2, x.loader(Integer.MIN_VALUE));
        due.is("told(0)", 1, x.told(0));
        for (int i = 1; i < 8; i++) due.is("loader(" + (i - 1) + ")", i, x.loader(i - 1));
        due.is("the ninth", -5, x.loader(0));
        due.is("the ninth, UNKNOWN first", -2, x.loader(8));
        due.is("told(0)", 8, x.told(0));
        due.is("load(7, 0) goes up all the way", 0, x.load(7, 0));
        due.is("told(5)", 8, x.told(5));
    }

    private static void bounds() {
        LoaderModels x = new LoaderModels();
        x.loader(0);
        due.is("bound(2, 41)", -2, x.bound(2, 41));
        due.is("bound(-1, 0)", -2, x.bound(-1, 0));
        due.is("bound(0, 41), OUTSIDE first", -3, x.bound(0, 41));
        due.is("bound(0, 0)", -4, x.bound(0, 0));
        due.is("bound(1, 40)", 0, x.bound(1, 40));
        due.is("bound(1, 41)", -3, x.bound(1, 41));
        due.is("bound(1, -1)", -3, x.bound(1, -1));
        due.is("bound(1, 0)", 40, x.bound(1, 0));
        due.is("bound(1, 7)", 0, x.bound(1, 7));
        due.is("bound(1, 7)", 7, x.bound(1, 7));
    }

    private static void files() {
        LoaderModels x = new LoaderModels();
        due.is("file(40, ..)", -3, x.file(40, 0, 0, 1, false));
        due.is("file(-1, ..)", -3, x.file(-1, 0, 0, 1, false));
        due.is("file(.., inner 40)", -3, x.file(5, 40, 0, 1, false));
        due.is("file(.., inner -1)", -3, x.file(5, -1, 0, 1, false));
        due.is("file(.., above 40)", -3, x.file(5, 5, 40, 1, false));
        due.is("file(.., above -1)", -3, x.file(5, 5, -1, 1, false));
        due.is("told(1)", 5, x.told(1));
        due.is("file of the edges", 5, x.file(39, 39, 0, Integer.MIN_VALUE, false));
        due.is("file of the edges", 6, x.file(0, 0, 39, Integer.MAX_VALUE, true));
        for (int i = 7; i < 30; i++) due.is("file " + i, i, x.file(5, 5, 0, 1, false));
        due.is("the 31st", -5, x.file(5, 5, 0, 1, false));
        due.is("the 31st, OUTSIDE first", -3, x.file(5, 5, 40, 1, false));
        due.is("told(1)", 30, x.told(1));
        due.is("define(0, 30)", -2, x.define(0, 30));
        due.is("method(30, ..)", -2, x.method(30, 0, 0, 0, 0));
        due.is("define(0, 5)", 1, x.define(0, 5));
        due.is("about(1, 0)", 39, x.about(1, 0));
    }

    private static void methods() {
        LoaderModels x = new LoaderModels();
        due.is("method(5, 4, 3, ..)", -2, x.method(5, 4, 3, 0, 0));
        due.is("method(-1, ..)", -2, x.method(-1, 0, 0, 0, 0));
        due.is("m 4", -3, x.method(0, 4, 0, 0, 0));
        due.is("m -1", -3, x.method(0, -1, 0, 0, 0));
        due.is("kind 3", -3, x.method(0, 0, 3, 0, 0));
        due.is("kind -1", -3, x.method(0, 0, -1, 0, 0));
        x.load(0, 0);
        x.make(0);
        for (int m = 0; m < 4; m++) {
            due.is("none yet", Due.REFUSED + 20, x.call(0, m, 1));
            due.is("method " + m, 1, x.method(0, m, 0, m + 1, 10));
            due.is("a class that is there has it", 5L * (m + 1) + 10, x.call(0, m, 5));
        }
        due.is("in place of what was there", 1, x.method(0, 2, 0, -1, 0));
        due.is("the new one", -5, x.call(0, 2, 5));
        due.is("another stays", 20 + 10, x.call(0, 3, 5));
        due.is("refused", -3, x.method(0, 2, 5, 9, 9));
        due.is("a refusal changes nothing", -5, x.call(0, 2, 5));
    }

    private static void bears() {
        LoaderModels x = new LoaderModels();
        x.loader(0);
        x.loader(1);
        due.is("file 5", 5, x.file(6, 6, 0, 1, false));
        due.is("file 6", 6, x.file(6, 6, 0, 2, false));
        due.is("bear(3, 5)", -2, x.bear(3, 5));
        due.is("bear(-1, 5)", -2, x.bear(-1, 5));
        due.is("bear(1, 7)", -2, x.bear(1, 7));
        due.is("bear(1, -1)", -2, x.bear(1, -1));
        due.is("bear(0, 7), UNKNOWN first", -2, x.bear(0, 7));
        due.is("bear(0, 5)", -4, x.bear(0, 5));
        due.is("the MACHINE has none of it", -11, x.load(0, 6));
        due.is("bear(1, 5)", 1, x.bear(1, 5));
        due.is("bear(2, 5)", 1, x.bear(2, 5));
        due.is("bear(1, 6) in place of 5", 1, x.bear(1, 6));
        due.is("load(1, 6)", 1, x.load(1, 6));
        due.is("its file", 6, x.about(1, 3));
        due.is("bear(1, 5) afterwards", 1, x.bear(1, 5));
        due.is("the class stays", 1, x.load(1, 6));
        due.is("its file stays", 6, x.about(1, 3));
        due.is("load(2, 6)", 2, x.load(2, 6));
        due.is("the other's file", 5, x.about(2, 3));
    }
}
