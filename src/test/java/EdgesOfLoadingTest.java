/** The edges that the document names in promises 7 to 9, and in "TO LOAD" and "TO DEFINE": each sentence has a method here. */
public final class EdgesOfLoadingTest {
    private static final Due due = new Due();

    public static void main(String[] args) {
        loadIsRefused();
        loadOfTheSmallestAndLargestName();
        whatIsKnownIsNotedAndGot();
        justDefiningIsACircle();
        theMachineIsAlone();
        boundIsTheFirstNameOfItsOwn();
        absentAtTheParentIsTheOtherTurn();
        anotherFailureOfTheParentGoesOn();
        neitherGivesOne();
        whatItGotItKnows();
        barredFromTheParent();
        barredFromTheParentThatWasFirst();
        defineIsRefused();
        securityBelowFive();
        innerIsAnotherName();
        linkageIfItKnowsOne();
        absentAboveIsNoDefinition();
        anotherFailureAboveGoesOn();
        aboveIsFinal();
        noughtHasNoneAbove();
        barredFromDefining();
        roomForForty();
        roomForTheOneAboveOnly();
        failuresOfDefineInOrder();
        whatWasDoneStays();
        whatIsDefiningEnds();
        knownIsRefused();
        knownIsNone();
        due.end();
    }

    private static LoaderModels withLoaders(int count) {
        LoaderModels x = new LoaderModels();
        for (int i = 1; i < count; i++) x.loader(i - 1);
        return x;
    }

    private static void loadIsRefused() {
        LoaderModels x = withLoaders(3);
        for (int loader : Due.notBelow(3)) {
            due.is("UNKNOWN", -2, x.load(loader, 0));
            for (int name : Due.notBelow(40)) due.is("UNKNOWN before OUTSIDE", -2, x.load(loader, name));
        }
        for (int loader = 0; loader < 3; loader++) {
            for (int name : Due.notBelow(40)) due.is("OUTSIDE " + name, -3, x.load(loader, name));
        }
        due.is("nothing is NOTED", 0, x.told(5));
        due.is("nothing is NOTED", -1, x.noted(0));
        due.is("no FAILURE", 0, x.told(6));
        due.is("no class", 0, x.told(2));
    }

    private static void loadOfTheSmallestAndLargestName() {
        LoaderModels x = withLoaders(8);
        x.file(39, 39, 0, 1, false);
        x.bear(7, 5);
        due.is("NAME 39 by LOADER 7", 1, x.load(7, 39));
        due.is("NAME 0 by LOADER 7", 0, x.load(7, 0));
        due.is("NAME 39 by the MACHINE", -11, x.load(0, 39));
        due.is("noted", 39, x.noted(0));
        due.is("NAME 0 by the MACHINE", 0, x.load(0, 0));
        due.is("noted", 0, x.noted(0));
        due.is("NAME 39 again", 1, x.load(7, 39));
        due.is("noted", 64 * 7 + 39, x.noted(0));
    }

    private static void whatIsKnownIsNotedAndGot() {
        LoaderModels x = withLoaders(2);
        x.file(9, 9, 0, 1, false);
        x.file(9, 9, 0, 2, false);
        x.bear(1, 5);
        due.is("load", 1, x.load(1, 9));
        int loads = x.told(5);
        x.bear(1, 6);
        x.bound(1, 40);
        due.is("the one it KNOWS, whatever it HAS now", 1, x.load(1, 9));
        due.is("one LOAD", loads + 1, x.told(5));
        due.is("NOTED", 64 + 9, x.noted(0));
        due.is("its file", 5, x.about(1, 3));
    }

    private static void justDefiningIsACircle() {
        LoaderModels x = withLoaders(2);
        x.file(9, 9, 9, 1, false);
        x.bear(1, 5);
        due.is("itself above itself", -16, x.load(1, 9));
        due.is("two LOADS", 2, x.told(5));
        due.is("the second is NOTED, too", 64 + 9, x.noted(0));
        due.is("CIRCLE", 6, x.told(6));
        due.is("it KNOWS none", -1, x.known(1, 9));
        LoaderModels y = withLoaders(2);
        for (int n = 5; n < 30; n++) y.file(n, n, n == 29 ? 5 : n + 1, 1, false);
        for (int f = 5; f < 30; f++) y.bear(1, f);
        due.is("a ring of 25", -16, y.load(1, 17));
        due.is("26 LOADS", 26, y.told(5));
        due.is("no class", 0, y.told(2));
        LoaderModels z = withLoaders(2);
        z.file(9, 9, 9, 1, false);
        z.file(9, 9, 0, 1, false);
        z.bound(1, 40);
        due.is("the MACHINE DEFINES it", 1, z.define(0, 6));
        due.is("a CIRCLE though the PARENT is FIRST and KNOWS one", -16, z.define(1, 5));
        due.is("the PARENT was not asked", 64 + 9, z.noted(0));
    }

    private static void theMachineIsAlone() {
        LoaderModels x = withLoaders(2);
        x.file(9, 9, 0, 1, false);
        x.bear(1, 5);
        due.is("nobody below is asked", -11, x.load(0, 9));
        due.is("one LOAD", 1, x.told(5));
    }

    private static void boundIsTheFirstNameOfItsOwn() {
        for (int name = 5; name < 40; name++) {
            LoaderModels x = withLoaders(3);
            x.file(name, name, 0, 1, false);
            x.file(name, name, 0, 2, false);
            x.bear(1, 5);
            x.bear(2, 6);
            x.bound(2, name);
            due.is("NAME " + name + " is not below its BOUND", 1, x.load(2, name));
            due.is("itself is FIRST", 2, x.about(1, 1));
            x.loader(1);
            x.bear(3, 6);
            x.bound(3, name + 1);
            due.is("NAME " + name + " is below its BOUND", 2, x.load(3, name));
            due.is("the PARENT is FIRST", 1, x.about(2, 1));
        }
    }

    private static void absentAtTheParentIsTheOtherTurn() {
        LoaderModels x = withLoaders(8);
        x.file(20, 20, 0, 1, false);
        x.bear(7, 5);
        for (int i = 1; i < 8; i++) x.bound(i, 40);
        due.is("PARENT FIRST, ABSENT all the way", 1, x.load(7, 20));
        due.is("its own", 7, x.about(1, 1));
        // Eight LOADS of 20, then eight of 0 for the class above.
        due.is("told(5)", 16, x.told(5));
        for (int i = 0; i < 8; i++) due.is("noted(" + i + ")", 64 * i, x.noted(i));
        for (int i = 8; i < 16; i++) due.is("noted(" + i + ")", 64 * (i - 8) + 20, x.noted(i));
        for (int i = 0; i < 7; i++) due.is("who had it not KNOWS none", -1, x.known(i, 20));
        LoaderModels y = withLoaders(3);
        y.file(20, 20, 0, 1, false);
        y.bear(1, 5);
        due.is("itself FIRST, but it HAS none", 1, y.load(2, 20));
        due.is("the PARENT's", 1, y.about(1, 1));
    }

    private static void anotherFailureOfTheParentGoesOn() {
        LoaderModels x = withLoaders(3);
        x.bound(2, 40);
        x.file(10, 11, 0, 1, false);
        x.file(12, 12, 12, 1, false);
        x.file(4, 4, 0, 1, false);
        x.file(13, 13, 0, 1, true);
        x.file(14, 14, 13, 1, false);
        x.file(15, 15, 30, 1, false);
        for (int f = 5; f < 11; f++) x.bear(1, f);
        for (int n : new int[] {10, 12, 14, 15}) x.bear(2, x.file(n, n, 0, 1, false));
        due.is("NO DEFINITION", -12, x.load(2, 10));
        due.is("CIRCLE", -16, x.load(2, 12));
        due.is("SECURITY", -14, x.load(2, 4));
        due.is("FINAL", -17, x.load(2, 14));
        due.is("what was ABSENT above there", -12, x.load(2, 15));
        for (int n : new int[] {10, 12, 4, 14, 15}) due.is("it KNOWS none", -1, x.known(2, n));
        x.bound(2, 0);
        for (int n : new int[] {10, 12, 14, 15}) due.is("its own", 2, x.about(x.load(2, n), 1));
    }

    private static void neitherGivesOne() {
        LoaderModels x = withLoaders(8);
        for (int bound = 0; bound <= 40; bound += 20) {
            for (int i = 1; i < 8; i++) x.bound(i, bound);
            int loads = x.told(5);
            due.is("ABSENT", -11, x.load(7, 20));
            due.is("each was asked once", loads + 8, x.told(5));
        }
        due.is("ABSENT", 1, x.told(6));
        for (int i = 0; i < 8; i++) due.is("it KNOWS none", -1, x.known(i, 20));
    }

    private static void whatItGotItKnows() {
        LoaderModels x = withLoaders(8);
        due.is("load(7, 0)", 0, x.load(7, 0));
        for (int i = 0; i < 8; i++) due.is("all on the way KNOW it", 0, x.known(i, 0));
        due.is("load(3, 1)", 1, x.load(3, 1));
        for (int i = 0; i < 8; i++) due.is("those below do not", i <= 3 ? 1 : -1, x.known(i, 1));
    }

    /** Loader 2 is below 1, and 3 below the MACHINE; 2 and 3 agree on NAME 20, where 3 KNOWS one and 1 HAS a file. */
    private static LoaderModels barred() {
        LoaderModels x = withLoaders(3);
        x.loader(0);
        x.file(20, 20, 0, 1, false);
        x.file(21, 21, 0, 1, false);
        due.is("class 1 of LOADER 2", 1, x.define(2, 6));
        due.is("class 2 of LOADER 3", 2, x.define(3, 5));
        due.is("agree", 1, x.agree(1, 2, 20));
        due.is("bear", 1, x.bear(1, 5));
        return x;
    }

    private static void barredFromTheParent() {
        LoaderModels x = barred();
        due.is("LINKAGE", -13, x.load(2, 20));
        due.is("it KNOWS none then", -1, x.known(2, 20));
        due.is("the PARENT KNOWS one", 3, x.known(1, 20));
        due.is("that is there", 4, x.told(2));
        due.is("LINKAGE", 3, x.told(6));
        due.is("again", -13, x.load(2, 20));
        due.is("no class more", 4, x.told(2));
    }

    private static void barredFromTheParentThatWasFirst() {
        LoaderModels x = barred();
        x.bound(2, 40);
        x.bear(2, 5);
        due.is("LINKAGE is no ABSENT: no other turn", -13, x.load(2, 20));
        due.is("the PARENT's alone was made", 4, x.told(2));
        due.is("its LOADER", 1, x.about(3, 1));
    }

    private static void defineIsRefused() {
        LoaderModels x = withLoaders(2);
        x.file(9, 9, 0, 1, false);
        for (int loader : Due.notBelow(2)) due.is("LOADER " + loader, -2, x.define(loader, 5));
        for (int file : Due.notBelow(6)) due.is("file " + file, -2, x.define(1, file));
        for (int file : Due.notBelow(6)) due.is("both", -2, x.define(-1, file));
        due.is("UNKNOWN before FAILURES", -2, x.define(2, 0));
        due.is("no class", 0, x.told(2));
        due.is("no FAILURE", 0, x.told(6));
        due.is("no LOAD", 0, x.told(5));
        due.is("it need not HAVE it", 1, x.define(1, 5));
    }

    private static void securityBelowFive() {
        LoaderModels x = withLoaders(8);
        x.file(4, 4, 0, 1, false);
        x.file(5, 5, 0, 1, false);
        for (int loader = 1; loader < 8; loader++) {
            due.is("NAME 4", -14, x.define(loader, 5));
            due.is("NAME 0", -14, x.define(loader, 0));
        }
        due.is("no LOAD for it", 0, x.told(5));
        for (int loader = 1; loader < 8; loader++) due.is("NAME 5", loader, x.define(loader, 6));
        due.is("the MACHINE may DEFINE NAME 4", 8, x.define(0, 5));
        due.is("and NAME 5", 9, x.define(0, 6));
    }

    private static void innerIsAnotherName() {
        LoaderModels x = withLoaders(2);
        x.file(9, 8, 0, 1, false);
        x.file(9, 39, 0, 1, false);
        x.file(9, 9, 0, 1, false);
        due.is("INNER one below", -12, x.define(1, 5));
        due.is("INNER another", -12, x.define(1, 6));
        due.is("by the MACHINE, too", -12, x.define(0, 5));
        due.is("no LOAD", 0, x.told(5));
        for (int n : new int[] {8, 9, 39}) due.is("it KNOWS none", -1, x.known(1, n));
        due.is("the same NAME", 1, x.define(1, 7));
    }

    private static void linkageIfItKnowsOne() {
        LoaderModels x = withLoaders(3);
        x.file(9, 9, 0, 1, false);
        x.file(9, 9, 0, 2, false);
        due.is("define", 1, x.define(1, 5));
        due.is("the same file again", -13, x.define(1, 5));
        due.is("another of the NAME", -13, x.define(1, 6));
        due.is("one that it only asked for", 1, x.load(2, 9));
        due.is("bars, too", -13, x.define(2, 6));
        due.is("the MACHINE KNOWS none", 2, x.define(0, 6));
        due.is("two classes and that above", 3, x.told(2));
        due.is("NAME 0 again", -13, x.define(0, 0));
    }

    private static void absentAboveIsNoDefinition() {
        LoaderModels x = withLoaders(3);
        x.file(9, 9, 10, 1, false);
        x.file(8, 8, 9, 1, false);
        x.bear(1, 5);
        due.is("NO DEFINITION", -12, x.define(1, 5));
        due.is("told", 2, x.told(6));
        due.is("by load", -12, x.load(1, 9));
        due.is("below that one", -12, x.define(2, 6));
        due.is("by the MACHINE", -12, x.define(0, 5));
        due.is("no class", 0, x.told(2));
    }

    private static void anotherFailureAboveGoesOn() {
        LoaderModels x = withLoaders(2);
        x.file(9, 9, 4, 1, false);
        x.file(10, 10, 11, 1, false);
        x.file(11, 12, 0, 1, false);
        x.bear(1, 4);
        x.bear(1, 7);
        due.is("SECURITY above", -14, x.define(1, 5));
        due.is("NO DEFINITION above", -12, x.define(1, 6));
        due.is("no class", 0, x.told(2));
    }

    private static void aboveIsFinal() {
        LoaderModels x = withLoaders(2);
        x.file(9, 9, 0, 1, true);
        x.file(10, 10, 9, 1, false);
        x.file(11, 11, 9, 1, true);
        x.bear(1, 5);
        due.is("FINAL", -17, x.define(1, 6));
        due.is("that above stays", 1, x.known(1, 9));
        due.is("a FINAL one below a FINAL one", -17, x.define(1, 7));
        due.is("it KNOWS none", -1, x.known(1, 11));
        x.file(10, 10, 0, 1, false);
        due.is("one that is not FINAL above", 2, x.define(1, 8));
    }

    private static void noughtHasNoneAbove() {
        LoaderModels x = new LoaderModels();
        x.file(0, 0, 39, 1, false);
        due.is("NAME 0, ABOVE 39, which is nowhere", 0, x.define(0, 5));
        due.is("none above", -1, x.about(0, 2));
        due.is("no LOAD", 0, x.told(5));
        LoaderModels y = new LoaderModels();
        due.is("NAME 0, ABOVE 0, is no CIRCLE", 0, y.load(0, 0));
        due.is("one LOAD", 1, y.told(5));
        y.file(1, 1, 1, 1, false);
        due.is("NAME 1, ABOVE 1, is one", -16, y.define(0, 5));
    }

    private static void barredFromDefining() {
        LoaderModels x = barred();
        due.is("LINKAGE", -13, x.define(2, 5));
        due.is("it KNOWS none", -1, x.known(2, 20));
        due.is("no class of it", 3, x.told(2));
        due.is("who has not agreed is free", 3, x.define(1, 5));
        due.is("another file of the NAME", 7, x.file(20, 20, 1, 1, false));
        due.is("the class above is got first", -13, x.define(2, 7));
        due.is("and stays", 4, x.known(2, 1));
    }

    /** LOADERS 1 and 2 below the MACHINE, with NAME 0 and 38 more classes, of files 5 to 23, besides 24 of NAME 24. */
    private static LoaderModels with39() {
        LoaderModels x = new LoaderModels();
        x.loader(0);
        x.loader(0);
        for (int n = 5; n < 25; n++) x.file(n, n, 0, 1, false);
        for (int f = 5; f < 24; f++) x.define(1, f);
        for (int f = 5; f < 24; f++) x.define(2, f);
        due.is("39 classes", 39, x.told(2));
        return x;
    }

    private static void roomForForty() {
        LoaderModels x = with39();
        due.is("the 40th", 39, x.define(1, 24));
        due.is("the 41st", -22, x.define(2, 24));
        due.is("told", 12, x.told(6));
        due.is("it KNOWS none", -1, x.known(2, 24));
        due.is("they stay forty", 40, x.told(2));
        due.is("a 41st is none", -2, x.about(40, 0));
        due.is("the 40th is there", 24, x.about(39, 0));
        due.is("one that is KNOWN is got", 39, x.load(1, 24));
        due.is("one for who asks, too", 0, x.load(2, 0));
        due.is("the MACHINE's, too, need ROOM", -22, x.load(2, 4));
        due.is("again", -22, x.define(2, 24));
    }

    private static void roomForTheOneAboveOnly() {
        LoaderModels x = with39();
        due.is("file", 25, x.file(30, 30, 4, 1, false));
        due.is("there is ROOM for the class above alone", -22, x.define(1, 25));
        due.is("which stays", 39, x.known(0, 4));
        due.is("and is KNOWN", 39, x.known(1, 4));
        due.is("the other is not", -1, x.known(1, 30));
        due.is("forty", 40, x.told(2));
    }

    private static void failuresOfDefineInOrder() {
        LoaderModels x = with39();
        x.define(1, 24);
        int wrongMachines = x.file(4, 39, 0, 1, false);
        int wrongInner = x.file(24, 39, 39, 1, false);
        int twice = x.file(24, 24, 24, 1, false);
        int absentAbove = x.file(31, 31, 39, 1, false);
        due.is("SECURITY before NO DEFINITION", -14, x.define(1, wrongMachines));
        due.is("NO DEFINITION before LINKAGE", -12, x.define(1, wrongInner));
        due.is("LINKAGE before the CIRCLE above", -13, x.define(1, twice));
        due.is("the CIRCLE above before ROOM", -16, x.define(2, twice));
        due.is("NO DEFINITION above before ROOM", -12, x.define(1, absentAbove));
        due.is("agree", 1, x.agree(1, 20, 24));
        due.is("the CIRCLE above before what bars", -16, x.define(2, twice));
        due.is("what bars before ROOM", -13, x.define(2, 24));
        LoaderModels y = new LoaderModels();
        y.loader(0);
        y.loader(0);
        y.file(9, 9, 0, 1, true);
        y.file(10, 10, 9, 1, false);
        y.file(10, 10, 0, 1, false);
        due.is("FINAL ones", 1, y.define(1, 5));
        due.is("FINAL ones", 2, y.define(2, 5));
        due.is("agree", 1, y.agree(1, 2, 10));
        due.is("who is first", 3, y.define(1, 7));
        due.is("FINAL before what bars", -17, y.define(2, 6));
        due.is("LINKAGE before FINAL", -13, y.define(1, 6));
        due.is("what bars alone", -13, y.define(2, 7));
        due.is("LOADER 1 KNOWS one of NAME 4", 4, y.load(1, 4));
        due.is("SECURITY before LINKAGE", -14, y.define(1, 4));
    }

    private static void whatWasDoneStays() {
        LoaderModels x = withLoaders(3);
        x.file(10, 10, 11, 1, false);
        x.file(11, 11, 12, 1, false);
        x.file(12, 12, 13, 1, false);
        x.file(13, 13, 2, 1, true);
        x.bear(2, 5);
        x.bear(2, 6);
        x.bear(1, 7);
        x.bear(1, 8);
        due.is("FINAL, three above", -17, x.load(2, 10));
        due.is("three classes", 3, x.told(2));
        due.is("what LOADER 1 KNOWS", 2, x.known(1, 13));
        due.is("what LOADER 1 KNOWS", 1, x.known(1, 2));
        due.is("what the MACHINE KNOWS", 1, x.known(0, 2));
        for (int n = 10; n < 14; n++) due.is("LOADER 2 KNOWS none", -1, x.known(2, n));
        // 2:10, 2:11, 2:12, 1:12, 1:13, 1:2, 0:2, 0:0.
        due.is("the LOADS stay NOTED", 8, x.told(5));
    }

    private static void whatIsDefiningEnds() {
        LoaderModels x = withLoaders(2);
        x.file(10, 10, 11, 1, false);
        x.file(11, 11, 10, 1, false);
        x.bear(1, 5);
        x.bear(1, 6);
        for (int again = 0; again < 3; again++) due.is("CIRCLE", -16, x.load(1, 10));
        due.is("7", 7, x.file(11, 11, 0, 1, false));
        x.bear(1, 7);
        due.is("no CIRCLE any more", 2, x.load(1, 10));
        due.is("nor here", 1, x.load(1, 11));
    }

    private static void knownIsRefused() {
        LoaderModels x = withLoaders(2);
        for (int loader : Due.notBelow(2)) {
            due.is("UNKNOWN", -2, x.known(loader, 0));
            due.is("UNKNOWN before OUTSIDE", -2, x.known(loader, 40));
        }
        for (int name : Due.notBelow(40)) due.is("OUTSIDE " + name, -3, x.known(1, name));
    }

    private static void knownIsNone() {
        LoaderModels x = withLoaders(2);
        for (int name = 0; name < 40; name++) due.is("NONE", -1, x.known(1, name));
        due.is("known is no LOAD", 0, x.told(5));
        x.load(0, 0);
        due.is("what the PARENT KNOWS it need not", -1, x.known(1, 0));
        x.load(1, 39);
        due.is("what was ABSENT", -1, x.known(1, 39));
    }
}
