/** The edges that the document names in promises 12 to 20, and in its section 3: each sentence has a method here. */
public final class EdgesOfUsingTest {
    private static final Due due = new Due();

    public static void main(String[] args) {
        startIsRefused();
        startedOnce();
        theClassAboveFirst();
        aFailureAboveGoesOn();
        contentNought();
        staticIsCutTowardNought();
        failedIsStartedAgain();
        valueIsRefused();
        valueOfOneThatFails();
        makeIsRefused();
        makeOfOneThatFails();
        objectsAreSixtyAtMost();
        castIsRefused();
        castToWhatItIsOf();
        rowIsRefused();
        rowsOfNoughtToEight();
        rowsAreTwentyAtMost();
        rowStartsNothing();
        putIsRefused();
        putAtAnIndexOutside();
        putOfWhatIsNotOfIt();
        putOfNothing();
        getIsRefused();
        getAtAnIndexOutside();
        castRowIsRefused();
        castRowByItsOwnClass();
        callIsRefused();
        callOfNoMethod();
        callOfTheNearest();
        callsWrap();
        staticsWrap();
        callThatAnswersWhatARefusalDoes();
        due.end();
    }

    /** Classes 1, 2, .. below one another in a chain below NAME 0, of the MACHINE, with these CONTENTS; files 5, 6, .. */
    private static LoaderModels chain(int... contents) {
        LoaderModels x = new LoaderModels();
        for (int i = 0; i < contents.length; i++) {
            x.file(5 + i, 5 + i, i == 0 ? 0 : 4 + i, contents[i], false);
            due.is("class", i + 1, x.define(0, 5 + i));
        }
        return x;
    }

    private static void startIsRefused() {
        LoaderModels x = new LoaderModels();
        for (int c : Due.notBelow(0)) due.is("no class yet", -2, x.start(c));
        x.load(0, 4);
        for (int c : Due.notBelow(2)) due.is("start(" + c + ")", -2, x.start(c));
        for (int c = 0; c < 2; c++) due.is("nothing was STARTED", 0, x.about(c, 4));
        due.is("no FAILURE", 0, x.told(6));
    }

    private static void startedOnce() {
        LoaderModels x = chain(4);
        x.method(5, 0, 2, 1, 0);
        due.is("start", 1, x.start(1));
        due.is("make", 0, x.make(1));
        due.is("the STATIC changes", 251, x.call(0, 0, 1));
        due.is("start again", 1, x.start(1));
        due.is("value again", 251, x.value(1));
        due.is("make again", 1, x.make(1));
        due.is("it has not become 1000 by its CONTENT again", 251, x.value(1));
    }

    private static void theClassAboveFirst() {
        LoaderModels x = chain(1, 2, 4);
        due.is("start the middle one", 1, x.start(2));
        for (int c = 0; c < 4; c++) due.is("about(" + c + ", 4)", c < 3 ? 1 : 0, x.about(c, 4));
        LoaderModels y = chain(new int[25]);
        due.is("25 in a chain: the topmost FAILS, below NAME 0", -19, y.start(25));
        due.is("NAME 0 is STARTED", 1, y.about(0, 4));
        for (int c = 1; c <= 25; c++) due.is("this one has FAILED, too", 2, y.about(c, 4));
    }

    private static void aFailureAboveGoesOn() {
        LoaderModels x = chain(1, 0, 1, 1);
        due.is("START goes on", -19, x.start(4));
        int[] states = {1, 1, 2, 2, 2};
        for (int c = 0; c < 5; c++) due.is("about(" + c + ", 4)", states[c], x.about(c, 4));
        LoaderModels y = chain(0, 1, 1);
        due.is("START", -19, y.start(1));
        due.is("below it not STARTED yet", 0, y.about(3, 4));
        due.is("NO DEFINITION goes on", -12, y.start(3));
        due.is("this one has FAILED, too", 2, y.about(3, 4));
        due.is("and that between", 2, y.about(2, 4));
        LoaderModels z = chain(0, 0);
        due.is("the FAILURE is that of the one above, told once", -19, z.start(2));
        due.is("both have FAILED", 2, z.about(1, 4));
        due.is("both have FAILED", 2, z.about(2, 4));
    }

    private static void contentNought() {
        LoaderModels x = chain(0);
        due.is("START", -19, x.start(1));
        due.is("it has FAILED", 2, x.about(1, 4));
        due.is("told", 9, x.told(6));
        due.is("the class above stays STARTED", 1, x.about(0, 4));
    }

    private static void staticIsCutTowardNought() {
        int[] contents = {1, 2, 3, 6, 7, 499, 500, 501, 999, 1000, 1001, Integer.MAX_VALUE,
            -1, -2, -3, -6, -7, -499, -500, -501, -999, -1000, -1001, Integer.MIN_VALUE};
        int[] statics = {1000, 500, 333, 166, 142, 2, 2, 1, 1, 1, 0, 0,
            -1000, -500, -333, -166, -142, -2, -2, -1, -1, -1, 0, 0};
        LoaderModels x = new LoaderModels();
        for (int i = 0; i < contents.length; i++) {
            x.file(5 + i, 5 + i, 0, contents[i], false);
            due.is("CONTENT " + contents[i], statics[i], x.value(x.define(0, 5 + i)));
        }
        due.is("none of them FAILED", 0, x.told(6));
    }

    private static void failedIsStartedAgain() {
        LoaderModels x = chain(0);
        due.is("START", -19, x.start(1));
        for (int again = 0; again < 3; again++) {
            due.is("start", -12, x.start(1));
            due.is("value", Due.REFUSED + 12, x.value(1));
            due.is("make", -12, x.make(1));
            due.is("FAILED it stays", 2, x.about(1, 4));
        }
        due.is("told", 2, x.told(6));
    }

    private static void valueIsRefused() {
        LoaderModels x = new LoaderModels();
        for (int c : Due.notBelow(0)) due.is("no class yet", Due.REFUSED + 2, x.value(c));
        x.load(0, 4);
        for (int c : Due.notBelow(2)) due.is("value(" + c + ")", Due.REFUSED + 2, x.value(c));
        due.is("no FAILURE", 0, x.told(6));
        due.is("the last class", 1000, x.value(1));
    }

    private static void valueOfOneThatFails() {
        LoaderModels x = chain(0, 5);
        due.is("START", Due.REFUSED + 19, x.value(2));
        due.is("told", 9, x.told(6));
        due.is("NO DEFINITION", Due.REFUSED + 12, x.value(2));
        due.is("told", 2, x.told(6));
        due.is("that above", Due.REFUSED + 12, x.value(1));
    }

    private static void makeIsRefused() {
        LoaderModels x = new LoaderModels();
        for (int c : Due.notBelow(0)) due.is("no class yet", -2, x.make(c));
        x.load(0, 4);
        for (int c : Due.notBelow(2)) due.is("make(" + c + ")", -2, x.make(c));
        due.is("no OBJECT", 0, x.told(3));
        due.is("the next number is 0", 0, x.make(1));
    }

    private static void makeOfOneThatFails() {
        LoaderModels x = chain(0);
        due.is("START", -19, x.make(1));
        due.is("NO DEFINITION", -12, x.make(1));
        due.is("no OBJECT", 0, x.told(3));
        due.is("the next number is 0", 0, x.make(0));
    }

    private static void objectsAreSixtyAtMost() {
        LoaderModels x = chain(0);
        x.load(0, 4);
        for (int o = 0; o < 60; o++) due.is("OBJECT " + o, o, x.make(0));
        due.is("the 61st", -5, x.make(0));
        due.is("FULL before the FAILURE of a start", -5, x.make(1));
        due.is("FULL changes nothing", 0, x.about(1, 4));
        due.is("FULL", -5, x.make(2));
        due.is("FULL changes nothing", 0, x.about(2, 4));
        for (int c : Due.notBelow(3)) due.is("UNKNOWN before FULL", -2, x.make(c));
        due.is("they stay sixty", 60, x.told(3));
        due.is("a 61st is none", -2, x.cast(60, 0));
        due.is("the 60th is there", 1, x.cast(59, 0));
    }

    private static void castIsRefused() {
        LoaderModels x = new LoaderModels();
        x.load(0, 0);
        for (int o : Due.notBelow(0)) due.is("no OBJECT yet", -2, x.cast(o, 0));
        x.make(0);
        for (int o : Due.notBelow(1)) due.is("cast(" + o + ", 0)", -2, x.cast(o, 0));
        for (int c : Due.notBelow(1)) due.is("cast(0, " + c + ")", -2, x.cast(0, c));
        due.is("NONE is no OBJECT", -2, x.cast(-1, 0));
        due.is("no FAILURE", 0, x.told(6));
    }

    private static void castToWhatItIsOf() {
        LoaderModels x = chain(1, 1, 1);
        due.is("of the middle class", 0, x.make(2));
        for (int c = 0; c < 3; c++) due.is("its own, or above", 1, x.cast(0, c));
        due.is("no FAILURE", 0, x.told(6));
        due.is("one below", -15, x.cast(0, 3));
        due.is("told", 5, x.told(6));
        due.is("a cast STARTS nothing", 0, x.about(3, 4));
        LoaderModels y = new LoaderModels();
        y.loader(0);
        y.file(9, 9, 0, 1, false);
        y.define(0, 5);
        y.define(1, 5);
        y.make(1);
        due.is("one of the same NAME and file", -15, y.cast(0, 2));
    }

    private static void rowIsRefused() {
        LoaderModels x = new LoaderModels();
        for (int c : Due.notBelow(0)) due.is("no class yet", -2, x.row(c, 0));
        x.load(0, 0);
        for (int c : Due.notBelow(1)) {
            due.is("UNKNOWN", -2, x.row(c, 0));
            due.is("UNKNOWN before OUTSIDE", -2, x.row(c, 9));
            due.is("UNKNOWN before OUTSIDE", -2, x.row(c, -1));
        }
        for (int n : Due.notBelow(9)) due.is("OUTSIDE " + n, -3, x.row(0, n));
        due.is("no ROW", 0, x.told(4));
        due.is("the next number is 0", 0, x.row(0, 0));
    }

    private static void rowsOfNoughtToEight() {
        LoaderModels x = new LoaderModels();
        x.load(0, 0);
        x.make(0);
        for (int n = 0; n <= 8; n++) {
            due.is("row(0, " + n + ")", n, x.row(0, n));
            for (int i = 0; i < n; i++) due.is("nothing there", -1, x.get(n, i));
            for (int i : Due.notBelow(n)) due.is("no place there", -21, x.get(n, i));
            for (int i = 0; i < n; i++) due.is("put", 1, x.put(n, i, 0));
            for (int i : Due.notBelow(n)) due.is("no place there", -21, x.put(n, i, 0));
        }
    }

    private static void rowsAreTwentyAtMost() {
        LoaderModels x = new LoaderModels();
        x.load(0, 0);
        for (int r = 0; r < 20; r++) due.is("ROW " + r, r, x.row(0, 8));
        due.is("the 21st", -5, x.row(0, 8));
        due.is("of none", -5, x.row(0, 0));
        for (int n : Due.notBelow(9)) due.is("OUTSIDE before FULL", -3, x.row(0, n));
        for (int c : Due.notBelow(1)) due.is("UNKNOWN before FULL", -2, x.row(c, 0));
        due.is("they stay twenty", 20, x.told(4));
        due.is("a 21st is none", -2, x.get(20, 0));
        due.is("the 20th is there", -1, x.get(19, 7));
    }

    private static void rowStartsNothing() {
        LoaderModels x = chain(0);
        due.is("a ROW of a class that can't be STARTED", 0, x.row(1, 1));
        due.is("it is not STARTED", 0, x.about(1, 4));
        due.is("START", -19, x.start(1));
        due.is("a ROW of one that has FAILED", 1, x.row(1, 1));
        due.is("nothing can stand there", 1, x.put(1, 0, -1));
    }

    private static void putIsRefused() {
        LoaderModels x = new LoaderModels();
        x.load(0, 0);
        due.is("no ROW yet", -2, x.put(0, 0, -1));
        x.row(0, 1);
        due.is("no OBJECT yet", -2, x.put(0, 0, 0));
        x.make(0);
        for (int r : Due.notBelow(1)) {
            due.is("ROW " + r, -2, x.put(r, 0, 0));
            due.is("ROW " + r + ", nothing", -2, x.put(r, 0, -1));
            due.is("UNKNOWN before INDEX", -2, x.put(r, 1, 0));
        }
        for (int o : new int[] {1, 2, 60, -2, -3, Integer.MAX_VALUE, Integer.MIN_VALUE}) {
            due.is("OBJECT " + o, -2, x.put(0, 0, o));
            due.is("UNKNOWN before INDEX", -2, x.put(0, 1, o));
        }
        due.is("nothing was put", -1, x.get(0, 0));
        due.is("no FAILURE", 0, x.told(6));
    }

    private static void putAtAnIndexOutside() {
        LoaderModels x = chain(1);
        x.make(0);
        x.make(1);
        x.row(1, 2);
        x.row(1, 0);
        for (int i : Due.notBelow(2)) {
            due.is("INDEX " + i, -21, x.put(0, i, 1));
            due.is("of nothing", -21, x.put(0, i, -1));
            due.is("INDEX before STORE", -21, x.put(0, i, 0));
        }
        for (int i : Due.notBelow(0)) due.is("a ROW of none", -21, x.put(1, i, 1));
        due.is("told", 11, x.told(6));
        for (int i = 0; i < 2; i++) due.is("nothing was put", -1, x.get(0, i));
        due.is("the last place", 1, x.put(0, 1, 1));
    }

    private static void putOfWhatIsNotOfIt() {
        LoaderModels x = chain(1, 1, 1);
        for (int c = 0; c < 4; c++) due.is("make", c, x.make(c));
        x.row(2, 1);
        due.is("its own", 1, x.put(0, 0, 2));
        due.is("above", -18, x.put(0, 0, 1));
        due.is("far above", -18, x.put(0, 0, 0));
        due.is("told", 8, x.told(6));
        due.is("what was there stays", 2, x.get(0, 0));
        due.is("below", 1, x.put(0, 0, 3));
        due.is("in place of what was there", 3, x.get(0, 0));
    }

    private static void putOfNothing() {
        LoaderModels x = new LoaderModels();
        x.load(0, 0);
        x.make(0);
        x.row(0, 8);
        for (int i = 0; i < 8; i++) due.is("put", 1, x.put(0, i, 0));
        due.is("nothing", 1, x.put(0, 3, -1));
        for (int i = 0; i < 8; i++) due.is("get(0, " + i + ")", i == 3 ? -1 : 0, x.get(0, i));
        due.is("nothing where nothing is", 1, x.put(0, 3, -1));
    }

    private static void getIsRefused() {
        LoaderModels x = new LoaderModels();
        for (int r : Due.notBelow(0)) due.is("no ROW yet", -2, x.get(r, 0));
        x.load(0, 0);
        x.row(0, 1);
        for (int r : Due.notBelow(1)) {
            due.is("get(" + r + ", 0)", -2, x.get(r, 0));
            due.is("UNKNOWN before INDEX", -2, x.get(r, 1));
        }
        due.is("no FAILURE", 0, x.told(6));
    }

    private static void getAtAnIndexOutside() {
        LoaderModels x = new LoaderModels();
        x.load(0, 0);
        x.row(0, 8);
        x.row(0, 0);
        for (int i : Due.notBelow(8)) due.is("INDEX " + i, -21, x.get(0, i));
        for (int i : Due.notBelow(0)) due.is("a ROW of none", -21, x.get(1, i));
        due.is("told", 11, x.told(6));
        due.is("the last place", -1, x.get(0, 7));
    }

    private static void castRowIsRefused() {
        LoaderModels x = new LoaderModels();
        x.load(0, 0);
        for (int r : Due.notBelow(0)) due.is("no ROW yet", -2, x.castRow(r, 0));
        x.row(0, 0);
        for (int r : Due.notBelow(1)) due.is("castRow(" + r + ", 0)", -2, x.castRow(r, 0));
        for (int c : Due.notBelow(1)) due.is("castRow(0, " + c + ")", -2, x.castRow(0, c));
        due.is("no FAILURE", 0, x.told(6));
    }

    private static void castRowByItsOwnClass() {
        LoaderModels x = chain(1, 1);
        x.make(2);
        x.row(1, 1);
        due.is("an OBJECT of class 2", 1, x.put(0, 0, 0));
        due.is("its own", 1, x.castRow(0, 1));
        due.is("above", 1, x.castRow(0, 0));
        due.is("below, whatever it has", -15, x.castRow(0, 2));
        due.is("told", 5, x.told(6));
        x.row(1, 0);
        due.is("a ROW of none, to one below", -15, x.castRow(1, 2));
        due.is("a ROW of none, to one above", 1, x.castRow(1, 0));
    }

    private static void callIsRefused() {
        LoaderModels x = new LoaderModels();
        for (int o : Due.notBelow(0)) due.is("no OBJECT yet", Due.REFUSED + 2, x.call(o, 0, 0));
        x.load(0, 0);
        x.make(0);
        for (int o : Due.notBelow(1)) {
            due.is("UNKNOWN", Due.REFUSED + 2, x.call(o, 0, 0));
            due.is("UNKNOWN before OUTSIDE", Due.REFUSED + 2, x.call(o, 4, 0));
        }
        for (int m : Due.notBelow(4)) due.is("OUTSIDE " + m, Due.REFUSED + 3, x.call(0, m, 0));
        due.is("no FAILURE", 0, x.told(6));
    }

    private static void callOfNoMethod() {
        LoaderModels x = chain(1, 1);
        x.make(1);
        x.method(6, 0, 0, 1, 1);
        due.is("one below has it", Due.REFUSED + 20, x.call(0, 0, 1));
        due.is("told", 10, x.told(6));
        x.method(5, 0, 1, 1, 1);
        due.is("kind 1, none above", Due.REFUSED + 20, x.call(0, 0, 1));
        x.method(0, 0, 1, 1, 1);
        due.is("kind 1 at NAME 0, none above", Due.REFUSED + 20, x.call(0, 0, 1));
        x.method(0, 0, 0, 1, 1);
        due.is("kind 1 and one above", 3, x.call(0, 0, 1));
    }

    private static void callOfTheNearest() {
        LoaderModels x = chain(new int[] {1, 1, 1, 1, 1, 1, 1, 1, 1, 1, 1, 1, 1, 1, 1, 1, 1, 1, 1, 1, 1, 1, 1, 1, 1});
        x.make(25);
        x.method(0, 0, 0, 2, 1);
        due.is("25 classes up", 7, x.call(0, 0, 3));
        for (int f = 5; f < 30; f++) x.method(f, 0, 1, 100, 10);
        due.is("kind 1 all the way", 257, x.call(0, 0, 3));
        x.method(29, 0, 0, 1, 0);
        due.is("its own", 3, x.call(0, 0, 3));
        x.method(29, 0, 1, 0, 0);
        x.method(28, 0, 2, 1, 5);
        due.is("kind 2 above", 1008, x.call(0, 0, 3));
        due.is("the STATIC of that class", 1003, x.value(24));
        due.is("not of its own", 1000, x.value(25));
    }

    private static void callsWrap() {
        LoaderModels x = chain(1);
        x.make(1);
        x.method(0, 0, 0, 1, 1);
        due.is("the largest and 1", Long.MIN_VALUE, x.call(0, 0, Long.MAX_VALUE));
        x.method(0, 0, 0, 1, -1);
        due.is("the smallest less 1", Long.MAX_VALUE, x.call(0, 0, Long.MIN_VALUE));
        x.method(0, 0, 0, -1, 0);
        due.is("the smallest turned", Long.MIN_VALUE, x.call(0, 0, Long.MIN_VALUE));
        x.method(0, 0, 0, 2, 0);
        due.is("twice the largest", -2, x.call(0, 0, Long.MAX_VALUE));
        due.is("twice the smallest", 0, x.call(0, 0, Long.MIN_VALUE));
        x.method(0, 0, 0, Integer.MIN_VALUE, Integer.MIN_VALUE);
        due.is("ints at their ends", (1L << 62) - (1L << 31), x.call(0, 0, Integer.MIN_VALUE));
        x.method(0, 0, 0, 1, 0);
        x.method(5, 0, 1, 0, 1);
        due.is("kind 1 wraps, too", Long.MIN_VALUE, x.call(0, 0, Long.MAX_VALUE));
        x.method(5, 0, 1, 0, Integer.MIN_VALUE);
        due.is("kind 1 wraps, too", Long.MAX_VALUE - Integer.MAX_VALUE, x.call(0, 0, Long.MIN_VALUE));
    }

    private static void staticsWrap() {
        LoaderModels x = chain(1000);
        x.make(1);
        x.method(5, 0, 2, 1, 1);
        due.is("1 and the largest, and 1", Long.MIN_VALUE + 1, x.call(0, 0, Long.MAX_VALUE));
        due.is("the STATIC", Long.MIN_VALUE, x.value(1));
        due.is("back again", Long.MAX_VALUE, x.call(0, 0, -2));
        due.is("the STATIC", Long.MAX_VALUE - 1, x.value(1));
        x.method(5, 0, 2, 0, Integer.MAX_VALUE);
        due.is("b wraps", Long.MIN_VALUE + Integer.MAX_VALUE - 2L, x.call(0, 0, 5));
        due.is("and is not in the STATIC", Long.MAX_VALUE - 1, x.value(1));
    }

    private static void callThatAnswersWhatARefusalDoes() {
        LoaderModels x = chain(1000);
        x.make(1);
        x.method(5, 0, 0, 1, 0);
        for (int n = 0; n < 25; n++) due.is("a plain answer", Long.MIN_VALUE + n, x.call(0, 0, Long.MIN_VALUE + n));
        x.method(5, 1, 2, 1, 0);
        x.call(0, 1, Long.MIN_VALUE + 19);
        due.is("a plain STATIC", Long.MIN_VALUE + 20, x.value(1));
        due.is("no FAILURE", 0, x.told(6));
    }
}
