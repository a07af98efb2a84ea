/** The edges that the document names in promises 21 to 23: each sentence has a method here. */
public final class EdgesOfTellingTest {
    private static final Due due = new Due();

    public static void main(String[] args) {
        aboutIsRefused();
        aboutOfTheFirstAndTheLast();
        aboutANumberOfEach();
        notedWhereNothingIs();
        notedKeepsThirty();
        notedGoesRoundAndRound();
        notedOfTheLargest();
        toldIsOutside();
        toldWhenAllIsFull();
        toldOfLoadsGoesBeyondThirty();
        theLatestFailureIsNoughtAtFirst();
        refusalsAreNoFailures();
        everyFailureIsTold();
        due.end();
    }

    private static void aboutIsRefused() {
        LoaderModels x = new LoaderModels();
        for (int c : Due.notBelow(0)) due.is("no class yet", -2, x.about(c, 0));
        x.load(0, 0);
        for (int c : Due.notBelow(1)) {
            for (int what = 0; what < 5; what++) due.is("UNKNOWN", -2, x.about(c, what));
            for (int what : Due.notBelow(5)) due.is("UNKNOWN before OUTSIDE", -2, x.about(c, what));
        }
        for (int what : Due.notBelow(5)) due.is("OUTSIDE " + what, -3, x.about(0, what));
        due.is("no FAILURE", 0, x.told(6));
    }

    private static void aboutOfTheFirstAndTheLast() {
        LoaderModels x = new LoaderModels();
        for (int i = 1; i < 8; i++) x.loader(0);
        for (int f = 5; f < 30; f++) x.file(f + 10, f + 10, 0, 1, false);
        for (int f = 5; f < 29; f++) x.define(1, f);
        for (int f = 16; f < 30; f++) x.define(7, f);
        due.is("NAME 4 makes forty", 39, x.load(7, 4));
        due.is("forty", 40, x.told(2));
        int[] last = {39, 7, 0, 29, 0};
        int[] first = {0, 0, -1, 0, 0};
        for (int what = 0; what < 5; what++) due.is("about(38, " + what + ")", last[what], x.about(38, what));
        for (int what = 0; what < 5; what++) due.is("about(0, " + what + ")", first[what], x.about(0, what));
        due.is("UNKNOWN", -2, x.about(40, 0));
    }

    private static void aboutANumberOfEach() {
        LoaderModels x = new LoaderModels();
        x.file(9, 9, 0, 0, false);
        x.define(0, 5);
        due.is("NONE above NAME 0", -1, x.about(0, 2));
        due.is("class 0 above", 0, x.about(1, 2));
        due.is("not STARTED", 0, x.about(1, 4));
        x.start(0);
        due.is("STARTED", 1, x.about(0, 4));
        due.is("not STARTED by that above", 0, x.about(1, 4));
        x.start(1);
        due.is("FAILED", 2, x.about(1, 4));
    }

    private static void notedWhereNothingIs() {
        LoaderModels x = new LoaderModels();
        for (int i : Due.notBelow(0)) due.is("new: noted(" + i + ")", -1, x.noted(i));
        x.load(0, 0);
        due.is("one", 0, x.noted(0));
        for (int i : Due.notBelow(1)) due.is("noted(" + i + ")", -1, x.noted(i));
    }

    private static void notedKeepsThirty() {
        LoaderModels x = new LoaderModels();
        for (int n = 5; n < 34; n++) x.load(0, n);
        due.is("29: the oldest", 5, x.noted(28));
        due.is("29: no more", -1, x.noted(29));
        x.load(0, 34);
        due.is("30: the oldest", 5, x.noted(29));
        due.is("30: no more", -1, x.noted(30));
        x.load(0, 35);
        due.is("31: the latest", 35, x.noted(0));
        due.is("31: the oldest that is kept", 6, x.noted(29));
        due.is("31: no more", -1, x.noted(30));
        for (int i : Due.notBelow(30)) due.is("noted(" + i + ")", -1, x.noted(i));
        due.is("31 LOADS ever", 31, x.told(5));
    }

    private static void notedGoesRoundAndRound() {
        LoaderModels x = new LoaderModels();
        for (int n = 0; n < 151; n++) {
            x.load(0, 5 + n % 35);
            due.is("the latest", 5 + n % 35, x.noted(0));
            due.is("the oldest", n < 29 ? -1 : 5 + (n - 29) % 35, x.noted(29));
        }
        for (int i = 0; i < 30; i++) due.is("noted(" + i + ")", 5 + (150 - i) % 35, x.noted(i));
    }

    private static void notedOfTheLargest() {
        LoaderModels x = new LoaderModels();
        for (int i = 1; i < 8; i++) x.loader(i - 1);
        x.load(7, 39);
        for (int i = 0; i < 8; i++) due.is("noted(" + i + ")", 64 * i + 39, x.noted(i));
        due.is("no more", -1, x.noted(8));
    }

    private static void toldIsOutside() {
        LoaderModels x = new LoaderModels();
        for (int what : Due.notBelow(7)) due.is("told(" + what + ")", -3, x.told(what));
        due.is("no FAILURE", 0, x.told(6));
    }

    private static void toldWhenAllIsFull() {
        LoaderModels x = new LoaderModels();
        for (int i = 0; i < 9; i++) due.is("loader", i < 7 ? i + 1 : -5, x.loader(0));
        for (int f = 5; f < 32; f++) due.is("file", f < 30 ? f : -5, x.file(f, f, 0, 1, false));
        for (int f = 5; f < 30; f++) due.is("define(1, ..)", f - 4, x.define(1, f));
        for (int f = 5; f < 21; f++) due.is("define(2, ..)", f < 19 ? f + 21 : -22, x.define(2, f));
        for (int o = 0; o < 62; o++) due.is("make", o < 60 ? o : -5, x.make(o % 40));
        for (int r = 0; r < 22; r++) due.is("row", r < 20 ? r : -5, x.row(39 - r, r % 9));
        int[] counts = {8, 30, 40, 60, 20};
        for (int what = 0; what < 5; what++) due.is("told(" + what + ")", counts[what], x.told(what));
        due.is("ROOM", 12, x.told(6));
    }

    private static void toldOfLoadsGoesBeyondThirty() {
        LoaderModels x = new LoaderModels();
        for (int i = 1; i < 8; i++) x.loader(i - 1);
        for (int again = 1; again <= 100; again++) {
            x.load(7, 30);
            due.is("LOADS ever", 8 * again, x.told(5));
        }
    }

    private static void theLatestFailureIsNoughtAtFirst() {
        LoaderModels x = new LoaderModels();
        due.is("new", 0, x.told(6));
        x.load(0, 4);
        x.make(1);
        due.is("after what went well", 0, x.told(6));
        x.load(0, 5);
        due.is("ABSENT", 1, x.told(6));
        x.load(0, 4);
        x.make(1);
        due.is("what goes well leaves it", 1, x.told(6));
    }

    private static void refusalsAreNoFailures() {
        LoaderModels x = new LoaderModels();
        x.load(0, 0);
        x.make(0);
        due.is("NO METHOD", Due.REFUSED + 20, x.call(0, 0, 0));
        x.loader(9);
        x.bound(0, 41);
        x.bound(0, 0);
        x.file(40, 0, 0, 0, false);
        x.method(0, 4, 0, 0, 0);
        x.bear(0, 0);
        x.load(0, 40);
        x.define(0, 5);
        x.known(1, 0);
        x.agree(0, 0, 40);
        x.apart(0, 1);
        x.start(1);
        x.value(1);
        x.make(1);
        x.cast(0, 1);
        x.row(0, 9);
        x.put(0, 0, 0);
        x.get(0, 0);
        x.castRow(0, 0);
        x.call(0, 4, 0);
        x.about(0, 5);
        x.noted(30);
        x.told(7);
        due.is("the FAILURE before them all", 10, x.told(6));
    }

    private static void everyFailureIsTold() {
        LoaderModels x = new LoaderModels();
        x.loader(0);
        x.loader(0);
        x.file(9, 9, 9, 1, false);
        x.file(10, 10, 0, 0, true);
        x.file(11, 11, 10, 1, false);
        x.file(12, 12, 39, 1, false);
        for (int i = 0; i < 40; i++) x.file(13 + i, 13 + i, 0, 1, false);
        due.is("ABSENT", -11, x.load(1, 39));
        due.is("told", 1, x.told(6));
        due.is("NO DEFINITION", -12, x.define(1, 8));
        due.is("told", 2, x.told(6));
        due.is("define", 1, x.define(1, 6));
        due.is("define", 2, x.define(2, 6));
        due.is("LINKAGE by agree", -13, x.agree(1, 2, 10));
        due.is("told", 3, x.told(6));
        due.is("SECURITY", -14, x.define(1, 0));
        due.is("told", 4, x.told(6));
        due.is("make", 0, x.make(0));
        due.is("CAST", -15, x.cast(0, 1));
        due.is("told", 5, x.told(6));
        due.is("CIRCLE", -16, x.define(1, 5));
        due.is("told", 6, x.told(6));
        due.is("FINAL", -17, x.define(1, 7));
        due.is("told", 7, x.told(6));
        due.is("row", 0, x.row(1, 1));
        due.is("STORE", -18, x.put(0, 0, 0));
        due.is("told", 8, x.told(6));
        due.is("START", -19, x.start(1));
        due.is("told", 9, x.told(6));
        due.is("NO METHOD", Due.REFUSED + 20, x.call(0, 0, 0));
        due.is("told", 10, x.told(6));
        due.is("INDEX", -21, x.get(0, 1));
        due.is("told", 11, x.told(6));
        for (int f = 9; f < 30; f++) x.define(1, f);
        for (int f = 9; f < 30; f++) x.define(2, f);
        due.is("ROOM", 12, x.told(6));
        due.is("CAST by castRow", -15, x.castRow(0, 2));
        due.is("told", 5, x.told(6));
        due.is("NO DEFINITION by value", Due.REFUSED + 12, x.value(1));
        due.is("told", 2, x.told(6));
        due.is("START by make", -19, x.make(2));
        due.is("told", 9, x.told(6));
    }
}
