/** Promises 7 to 9: load, define, known. */
public final class LoadingTest {
    private static final Due due = new Due();

    public static void main(String[] args) {
        refusals();
        turns();
        parentFails();
        whatIsKnown();
        failuresOfDefine();
        whatStays();
        circles();
        finals();
        nameNought();
        room();
        due.end();
    }

    private static void refusals() {
        LoaderModels x = new LoaderModels();
        due.is("load(1, 40)", -2, x.load(1, 40));
        due.is("load(-1, 0)", -2, x.load(-1, 0));
        due.is("load(0, 40)", -3, x.load(0, 40));
        due.is("load(0, -1)", -3, x.load(0, -1));
        due.is("define(1, 0)", -2, x.define(1, 0));
        due.is("define(-1, 0)", -2, x.define(-1, 0));
        due.is("define(0, 5)", -2, x.define(0, 5));
        due.is("define(0, -1)", -2, x.define(0, -1));
        due.is("known(1, 40)", -2, x.known(1, 40));
        due.is("known(-1, 0)", -2, x.known(-1, 0));
        due.is("known(0, 40)", -3, x.known(0, 40));
        due.is("known(0, -1)", -3, x.known(0, -1));
        due.is("refusals are no LOADS", 0, x.told(5));
        due.is("refusals are no FAILURES", 0, x.told(6));
        due.is("load(0, 39)", -11, x.load(0, 39));
        due.is("known(0, 39)", -1, x.known(0, 39));
    }

    private static void turns() {
        for (int bound = 0; bound <= 40; bound++) {
            LoaderModels x = new LoaderModels();
            x.loader(0);
            x.loader(1);
            x.file(7, 7, 0, 1, false);
            x.file(7, 7, 0, 2, false);
            x.bear(1, 5);
            x.bear(2, 6);
            x.bound(2, bound);
            boolean parentFirst = 7 < bound;
            due.is("load(2, 7)", 1, x.load(2, 7));
            due.is("who defined it, BOUND " + bound, parentFirst ? 1 : 2, x.about(1, 1));
            due.is("known(1, 7)", parentFirst ? 1 : -1, x.known(1, 7));
            due.is("known(2, 7)", 1, x.known(2, 7));
            due.is("known(0, 7)", -1, x.known(0, 7));
        }
        LoaderModels x = new LoaderModels();
        x.loader(0);
        x.bound(1, 40);
        x.file(9, 9, 2, 1, false);
        x.bear(1, 5);
        due.is("ABSENT at the PARENT, then itself", 2, x.load(1, 9));
        // 1:9, 0:9, then above 1:2, 0:2, and above that 0:0.
        int[] notes = {0, 2, 64 + 2, 9, 64 + 9, -1};
        for (int i = 0; i < notes.length; i++) due.is("noted(" + i + ")", notes[i], x.noted(i));
        due.is("an ABSENT made good is no FAILURE of the call", 0, x.told(6));
        due.is("ABSENT at both", -11, x.load(1, 10));
        due.is("two LOADS more", 7, x.told(5));
        x.bound(1, 0);
        due.is("ABSENT at both", -11, x.load(1, 10));
        due.is("two LOADS more", 9, x.told(5));
    }

    private static void parentFails() {
        LoaderModels x = new LoaderModels();
        x.loader(0);
        x.loader(1);
        x.bound(2, 40);
        x.file(7, 8, 0, 1, false);
        x.file(7, 7, 0, 1, false);
        x.bear(1, 5);
        x.bear(2, 6);
        due.is("another FAILURE of the PARENT goes on", -12, x.load(2, 7));
        x.bound(2, 7);
        due.is("itself first", 1, x.load(2, 7));
        x.file(9, 10, 0, 1, false);
        x.bear(2, 7);
        x.file(9, 9, 0, 1, false);
        x.bear(1, 8);
        due.is("its own FAILURE goes on, the PARENT is not asked", -12, x.load(2, 9));
        due.is("known(1, 9)", -1, x.known(1, 9));
    }

    private static void whatIsKnown() {
        LoaderModels x = new LoaderModels();
        for (int i = 0; i < 7; i++) x.loader(i);
        x.file(20, 20, 1, 1, false);
        x.bear(2, 5);
        due.is("load(7, 20)", 2, x.load(7, 20));
        for (int i = 0; i < 8; i++) due.is("known(" + i + ", 20)", i < 2 ? -1 : 2, x.known(i, 20));
        for (int i = 0; i < 8; i++) due.is("known(" + i + ", 1)", i > 2 ? -1 : 1, x.known(i, 1));
        for (int i = 0; i < 8; i++) due.is("known(" + i + ", 0)", i > 0 ? -1 : 0, x.known(i, 0));
        int loads = x.told(5);
        due.is("again", 2, x.load(7, 20));
        due.is("only asked once", loads + 1, x.told(5));
        due.is("known is no LOAD", loads + 1, x.told(5));
        x.file(20, 20, 0, 1, false);
        due.is("who asked can't define it now", -13, x.define(5, 6));
        due.is("who did not ask can", 3, x.define(1, 6));
    }

    private static void failuresOfDefine() {
        LoaderModels x = new LoaderModels();
        x.loader(0);
        due.is("5", 5, x.file(4, 9, 0, 1, false));
        due.is("SECURITY before NO DEFINITION", -14, x.define(1, 5));
        due.is("the MACHINE may", -12, x.define(0, 5));
        due.is("6", 6, x.file(5, 4, 0, 1, false));
        due.is("NAME 5 is no MACHINE's", -12, x.define(1, 6));
        due.is("7", 7, x.file(5, 5, 0, 1, false));
        due.is("define, though it HAS none", 1, x.define(1, 7));
        due.is("known(1, 5)", 1, x.known(1, 5));
        due.is("NO DEFINITION before LINKAGE", -12, x.define(1, 6));
        due.is("LINKAGE", -13, x.define(1, 7));
        int loads = x.told(5);
        due.is("8", 8, x.file(6, 6, 30, 1, false));
        due.is("ABSENT above is NO DEFINITION", -12, x.define(1, 8));
        due.is("two LOADS", loads + 2, x.told(5));
        due.is("told(6)", 2, x.told(6));
        due.is("the MACHINE defines any NAME", 2, x.define(0, 7));
        due.is("one file, two classes", 1, x.apart(1, 2));
        due.is("9", 9, x.file(3, 3, 0, 1, false));
        x.bear(1, 9);
        due.is("itself first: SECURITY", -14, x.load(1, 3));
        due.is("known(0, 3)", -1, x.known(0, 3));
        x.bound(1, 4);
        due.is("PARENT first", 3, x.load(1, 3));
        due.is("SECURITY before LINKAGE", -14, x.define(1, 9));
        due.is("10", 10, x.file(5, 5, 30, 1, false));
        loads = x.told(5);
        due.is("LINKAGE before what is above", -13, x.define(1, 10));
        due.is("no LOAD", loads, x.told(5));
    }

    private static void whatStays() {
        LoaderModels x = new LoaderModels();
        x.loader(0);
        x.file(8, 8, 9, 1, false);
        x.file(9, 9, 10, 1, false);
        x.file(10, 10, 2, 1, true);
        for (int f = 5; f < 8; f++) x.bear(1, f);
        due.is("FINAL above goes on", -17, x.load(1, 8));
        due.is("the class above was defined", 2, x.known(1, 10));
        due.is("the others were not", -1, x.known(1, 9));
        due.is("the others were not", -1, x.known(1, 8));
        due.is("told(2)", 3, x.told(2));
        x.file(9, 9, 0, 1, false);
        x.bear(1, 8);
        due.is("after the FAILURE it can be defined", 4, x.load(1, 8));
        due.is("above", 3, x.about(4, 2));
        due.is("above that", 0, x.about(3, 2));
    }

    private static void circles() {
        LoaderModels x = new LoaderModels();
        x.loader(0);
        x.loader(1);
        x.file(8, 8, 8, 1, false);
        due.is("its own above", -16, x.define(1, 5));
        due.is("again", -16, x.define(1, 5));
        x.file(9, 9, 10, 1, false);
        x.file(10, 10, 11, 1, false);
        x.file(11, 11, 9, 1, false);
        x.bear(1, 6);
        x.bear(1, 7);
        x.bear(1, 8);
        due.is("three round", -16, x.load(1, 10));
        due.is("noted(0)", 64 + 10, x.noted(0));
        due.is("told(2)", 0, x.told(2));
        due.is("the PARENT's circle", -16, x.load(2, 9));
        // A NAME above that the PARENT gives is no circle, though it is the same NAME.
        x.file(12, 12, 13, 1, false);
        x.file(13, 13, 12, 1, false);
        x.file(12, 12, 0, 1, false);
        x.bear(2, 9);
        x.bear(1, 10);
        x.bear(1, 11);
        due.is("12 above 13 above 12", 3, x.load(2, 12));
        due.is("its LOADER", 2, x.about(3, 1));
        due.is("above it", 2, x.about(3, 2));
        due.is("that is 13", 13, x.about(2, 0));
        due.is("above that", 1, x.about(2, 2));
        due.is("the PARENT's 12", 12, x.about(1, 0));
        due.is("two of one NAME", 1, x.apart(3, 1));
    }

    private static void finals() {
        LoaderModels x = new LoaderModels();
        x.loader(0);
        x.file(8, 8, 0, 1, true);
        x.file(9, 9, 8, 1, false);
        x.bear(1, 5);
        x.bear(1, 6);
        due.is("a FINAL one itself", 1, x.load(1, 8));
        due.is("below it", -17, x.load(1, 9));
        due.is("told(6)", 7, x.told(6));
        due.is("known(1, 9)", -1, x.known(1, 9));
        x.loader(1);
        due.is("the PARENT's is FINAL, too", -17, x.define(2, 6));
        due.is("known(2, 8)", 1, x.known(2, 8));
    }

    private static void nameNought() {
        LoaderModels x = new LoaderModels();
        x.loader(0);
        due.is("5", 5, x.file(0, 0, 17, 3, false));
        due.is("SECURITY", -14, x.define(1, 5));
        due.is("no NAME above is LOADED", 0, x.define(0, 5));
        due.is("told(5)", 0, x.told(5));
        due.is("none above", -1, x.about(0, 2));
        due.is("its file", 5, x.about(0, 3));
        due.is("load(1, 4)", 1, x.load(1, 4));
        due.is("above", 0, x.about(1, 2));
        LoaderModels y = new LoaderModels();
        y.file(0, 0, 0, 1, true);
        due.is("a FINAL root", 0, y.define(0, 5));
        due.is("nothing is below", -17, y.load(0, 1));
    }

    private static void room() {
        LoaderModels x = new LoaderModels();
        x.loader(0);
        x.loader(0);
        for (int n = 5; n < 26; n++) x.file(n, n, 0, 1, false);
        for (int f = 5; f < 25; f++) due.is("define(1, " + f + ")", f - 4, x.define(1, f));
        for (int f = 5; f < 24; f++) due.is("define(2, " + f + ")", f + 16, x.define(2, f));
        due.is("told(2)", 40, x.told(2));
        due.is("ROOM", -22, x.define(2, 24));
        due.is("told(6)", 12, x.told(6));
        due.is("told(2)", 40, x.told(2));
        due.is("known(2, 24)", -1, x.known(2, 24));
        due.is("ROOM of the MACHINE's own", -22, x.load(0, 1));
        due.is("LINKAGE goes first", -13, x.define(2, 5));
        due.is("one that is there is got", 1, x.load(1, 5));
        due.is("agree", 1, x.agree(1, 21, 24));
        due.is("AGREED bars before ROOM", -13, x.define(2, 24));
        due.is("about(39, 0)", 23, x.about(39, 0));
        due.is("about(40, 0)", -2, x.about(40, 0));
        due.is("CIRCLE goes first, too", 26, x.file(30, 30, 30, 1, false));
        due.is("CIRCLE goes first, too", -16, x.define(2, 26));
    }
}
