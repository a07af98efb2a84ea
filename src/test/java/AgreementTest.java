/** Promises 10 and 11: agree, apart. */
public final class AgreementTest {
    private static final Due due = new Due();

    public static void main(String[] args) {
        refusals();
        definingIsBarred();
        askingIsBarred();
        boundByAThird();
        theMachineToo();
        knowTwo();
        apart();
        due.end();
    }

    /** Loaders 1 to 4 below the MACHINE; class i is of loader i, of NAME 10 + i; file 4 + i. */
    private static LoaderModels four() {
        LoaderModels x = new LoaderModels();
        for (int i = 1; i <= 4; i++) {
            x.loader(0);
            x.file(10 + i, 10 + i, 0, 1, false);
            due.is("define", i, x.define(i, 4 + i));
        }
        return x;
    }

    private static void refusals() {
        LoaderModels x = four();
        due.is("agree(5, 1, 40)", -2, x.agree(5, 1, 40));
        due.is("agree(1, 5, 40)", -2, x.agree(1, 5, 40));
        due.is("agree(-1, 1, 7)", -2, x.agree(-1, 1, 7));
        due.is("agree(1, -1, 7)", -2, x.agree(1, -1, 7));
        due.is("agree(1, 2, 40)", -3, x.agree(1, 2, 40));
        due.is("agree(1, 2, -1)", -3, x.agree(1, 2, -1));
        due.is("agree(1, 1, 11)", 1, x.agree(1, 1, 11));
        due.is("agree(1, 2, 39)", 1, x.agree(1, 2, 39));
        due.is("again", 1, x.agree(2, 1, 39));
        due.is("apart(5, 1)", -2, x.apart(5, 1));
        due.is("apart(1, 5)", -2, x.apart(1, 5));
        due.is("apart(-1, 1)", -2, x.apart(-1, 1));
        due.is("apart(1, -1)", -2, x.apart(1, -1));
        due.is("no FAILURE", 0, x.told(6));
    }

    private static void definingIsBarred() {
        LoaderModels x = four();
        due.is("9", 9, x.file(20, 20, 0, 1, false));
        due.is("agree", 1, x.agree(1, 2, 20));
        due.is("the first one", 5, x.define(1, 9));
        due.is("the second is barred", -13, x.define(2, 9));
        due.is("it KNOWS none", -1, x.known(2, 20));
        due.is("no class is left", 6, x.told(2));
        due.is("ABSENT at the PARENT stays ABSENT", -11, x.load(2, 20));
        due.is("another is free", 6, x.define(3, 9));
        due.is("another NAME is free", 7, x.define(2, 5));
    }

    private static void askingIsBarred() {
        LoaderModels x = four();
        due.is("loader 5 below 1", 5, x.loader(1));
        due.is("9", 9, x.file(20, 20, 0, 1, false));
        due.is("10", 10, x.file(21, 21, 0, 1, false));
        due.is("class 5 of loader 5", 5, x.define(5, 10));
        due.is("agree(5, 2, 20)", 1, x.agree(5, 2, 20));
        due.is("class 6 of loader 2", 6, x.define(2, 9));
        x.bear(1, 9);
        due.is("what the PARENT gives is barred", -13, x.load(5, 20));
        due.is("it KNOWS none", -1, x.known(5, 20));
        due.is("the PARENT KNOWS its own", 7, x.known(1, 20));
        due.is("again", -13, x.load(5, 20));
        due.is("told(2)", 8, x.told(2));
        due.is("loader 6 below 2", 6, x.loader(2));
        due.is("class 8 of loader 6", 8, x.define(6, 10));
        due.is("agree(8, 5, 20)", 1, x.agree(8, 5, 20));
        due.is("the same class is not barred", 6, x.load(6, 20));
        due.is("a FAILURE that a PARENT met", 7, x.loader(5));
        due.is("goes on", -13, x.load(7, 20));
        due.is("it KNOWS none", -1, x.known(7, 20));
        // 5's own file of the NAME is barred, too.
        x.bear(5, 9);
        due.is("its own", -13, x.load(5, 20));
        due.is("told(2)", 9, x.told(2));
    }

    private static void boundByAThird() {
        LoaderModels x = four();
        due.is("9", 9, x.file(20, 20, 0, 1, false));
        due.is("agree(1, 2)", 1, x.agree(1, 2, 20));
        due.is("agree(3, 4)", 1, x.agree(3, 4, 20));
        due.is("class 5", 5, x.define(1, 9));
        due.is("agree(2, 3)", 1, x.agree(2, 3, 20));
        due.is("bound by two others", -13, x.define(4, 9));
        due.is("bound by one other", -13, x.define(3, 9));
        due.is("bound itself", -13, x.define(2, 9));
        due.is("the MACHINE is not", 6, x.define(0, 9));
        due.is("agree(0, 4), who KNOW two by others", -13, x.agree(0, 4, 20));
        due.is("told(6)", 3, x.told(6));
    }

    private static void theMachineToo() {
        LoaderModels x = four();
        due.is("9", 9, x.file(20, 20, 0, 1, false));
        due.is("10", 10, x.file(21, 21, 0, 1, false));
        due.is("agree(0, 1, 20)", 1, x.agree(0, 1, 20));
        due.is("class 5 of the MACHINE", 5, x.define(0, 9));
        due.is("1 is barred", -13, x.define(1, 9));
        due.is("it may have the MACHINE's", 5, x.load(1, 20));
        due.is("agree(2, 0, 21)", 1, x.agree(2, 0, 21));
        due.is("class 6 of loader 2", 6, x.define(2, 10));
        due.is("the MACHINE is barred", -13, x.define(0, 10));
        due.is("agree(0, 3, 20)", 1, x.agree(0, 3, 20));
        due.is("3 is barred by the MACHINE", -13, x.define(3, 9));
        due.is("class 7 of loader 4", 7, x.define(4, 9));
        due.is("the MACHINE KNOWS another", -13, x.agree(0, 4, 20));
        due.is("the other way", -13, x.agree(4, 0, 20));
        due.is("what the MACHINE alone KNOWS", 8, x.load(0, 1));
        due.is("it may agree on", 1, x.agree(0, 1, 1));
        for (int c = 1; c <= 4; c++) due.is("agree on NAME 0", 1, x.agree(0, c, 0));
        for (int l = 0; l <= 4; l++) due.is("all have the MACHINE's", 0, x.load(l, 0));
    }

    private static void knowTwo() {
        LoaderModels x = four();
        due.is("9", 9, x.file(20, 20, 0, 1, false));
        due.is("class 5", 5, x.define(1, 9));
        due.is("class 6", 6, x.define(2, 9));
        due.is("they KNOW two", -13, x.agree(1, 2, 20));
        due.is("the other way", -13, x.agree(2, 1, 20));
        due.is("agree(2, 3)", 1, x.agree(2, 3, 20));
        due.is("one bound KNOWS another", -13, x.agree(3, 1, 20));
        due.is("agree(1, 4)", 1, x.agree(1, 4, 20));
        due.is("both by others", -13, x.agree(3, 4, 20));
        due.is("nothing changed: another NAME", 1, x.agree(3, 4, 21));
        LoaderModels y = four();
        y.file(20, 20, 0, 1, false);
        y.file(20, 20, 0, 1, false);
        due.is("class 5", 5, y.define(1, 9));
        due.is("class 6", 6, y.define(2, 10));
        due.is("agree(1, 3)", 1, y.agree(1, 3, 20));
        due.is("refused", -13, y.agree(2, 3, 20));
        due.is("agree(2, 4)", 1, y.agree(2, 4, 20));
        due.is("3 is still bound to 1 alone", -13, y.define(3, 9));
        due.is("two that KNOW one class agree", 0, y.load(1, 0));
        due.is("two that KNOW one class agree", 0, y.load(2, 0));
        due.is("two that KNOW one class agree", 1, y.agree(1, 2, 0));
        LoaderModels z = four();
        z.file(20, 20, 0, 1, false);
        z.file(20, 20, 0, 1, false);
        z.loader(1);
        z.bear(5, 9);
        due.is("class 5, of loader 5", 5, z.load(5, 20));
        due.is("class 6, of loader 2", 6, z.define(2, 10));
        due.is("refused", -13, z.agree(5, 6, 20));
        due.is("a refused one binds nobody", 7, z.define(1, 9));
    }

    private static void apart() {
        LoaderModels x = four();
        due.is("9", 9, x.file(20, 20, 0, 1, false));
        x.define(1, 9);
        x.define(2, 9);
        due.is("two of one NAME", 1, x.apart(5, 6));
        due.is("the other way", 1, x.apart(6, 5));
        due.is("one class", 0, x.apart(5, 5));
        due.is("two NAMES", 0, x.apart(1, 5));
    }
}
