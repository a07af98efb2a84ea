/** The edges that the document names in promises 1 to 6: each sentence of it has a method here. */
public final class EdgesOfMakingTest {
    private static final Due due = new Due();

    public static void main(String[] args) {
        newObjectHasTheMachineAlone();
        newObjectHasFiveFiles();
        loaderOfAnUnknownParent();
        loadersAreEightAtMost();
        loaderIsUnknownBeforeFull();
        boundIsNoughtAtFirst();
        boundIsOfNoughtToForty();
        boundOfTheMachine();
        boundsRefusalsInOrder();
        fileOfNamesOutside();
        fileOfAnyContent();
        filesAreThirtyAtMost();
        fileIsOutsideBeforeFull();
        methodOfAnUnknownFile();
        methodsAreNoughtToThree();
        kindsAreNoughtToTwo();
        methodIsUnknownBeforeOutside();
        methodInPlaceOfAnother();
        methodOfAnyNumbers();
        bearOfUnknownOnes();
        bearOfTheMachine();
        bearInPlaceOfAnother();
        bearOfTheMachinesNames();
        due.end();
    }

    private static void newObjectHasTheMachineAlone() {
        LoaderModels x = new LoaderModels();
        due.is("LOADERS", 1, x.told(0));
        due.is("files", 5, x.told(1));
        for (int what = 2; what <= 6; what++) due.is("told(" + what + ")", 0, x.told(what));
        due.is("loader 1 is none", -2, x.known(1, 0));
        due.is("the MACHINE KNOWS nothing", -1, x.known(0, 0));
        due.is("class 0 is none", -2, x.about(0, 0));
        due.is("OBJECT 0 is none", -2, x.cast(0, 0));
        due.is("OBJECT 0 is none", Due.REFUSED + 2, x.call(0, 0, 0));
        due.is("ROW 0 is none", -2, x.get(0, 0));
        due.is("nothing is NOTED", -1, x.noted(0));
    }

    private static void newObjectHasFiveFiles() {
        LoaderModels x = new LoaderModels();
        due.is("file 5 is none", -2, x.define(0, 5));
        due.is("NAME 5 is none of the MACHINE's", -11, x.load(0, 5));
        for (int name = 0; name < 5; name++) {
            due.is("NAME " + name, name, x.load(0, name));
            due.is("file " + name, name, x.about(name, 3));
            due.is("NAME 0 above", name == 0 ? -1 : 0, x.about(name, 2));
            due.is("CONTENT 1", 1000, x.value(name));
            due.is("an OBJECT", name, x.make(name));
            for (int m = 0; m < 4; m++) due.is("no METHOD " + m, Due.REFUSED + 20, x.call(name, m, 1));
        }
    }

    private static void loaderOfAnUnknownParent() {
        LoaderModels x = new LoaderModels();
        for (int parent : Due.notBelow(1)) due.is("loader(" + parent + ")", -2, x.loader(parent));
        due.is("no LOADER came of it", 1, x.told(0));
        due.is("the next number is 1", 1, x.loader(0));
        for (int parent : Due.notBelow(2)) due.is("loader(" + parent + ")", -2, x.loader(parent));
        due.is("the latest may be a PARENT", 2, x.loader(1));
    }

    private static void loadersAreEightAtMost() {
        LoaderModels x = new LoaderModels();
        for (int i = 1; i < 8; i++) due.is("loader " + i, i, x.loader(0));
        for (int parent = 0; parent < 8; parent++) due.is("the ninth, below " + parent, -5, x.loader(parent));
        due.is("they stay eight", 8, x.told(0));
        due.is("the eighth LOADS", 0, x.load(7, 0));
        due.is("a ninth is none", -2, x.load(8, 0));
    }

    private static void loaderIsUnknownBeforeFull() {
        LoaderModels x = new LoaderModels();
        for (int i = 1; i < 8; i++) x.loader(0);
        for (int parent : Due.notBelow(8)) due.is("loader(" + parent + ")", -2, x.loader(parent));
    }

    private static void boundIsNoughtAtFirst() {
        LoaderModels x = new LoaderModels();
        for (int i = 1; i < 8; i++) {
            x.loader(i - 1);
            due.is("a new one's BOUND", 0, x.bound(i, 40));
            due.is("it became 40", 40, x.bound(i, 40));
        }
    }

    private static void boundIsOfNoughtToForty() {
        LoaderModels x = new LoaderModels();
        x.loader(0);
        int before = 0;
        for (int n = 0; n <= 40; n++) {
            due.is("bound(1, " + n + ")", before, x.bound(1, n));
            before = n;
        }
        for (int n : Due.notBelow(41)) due.is("bound(1, " + n + ")", -3, x.bound(1, n));
        due.is("what was refused did not become it", 40, x.bound(1, 0));
        for (int n : Due.notBelow(41)) due.is("bound(1, " + n + ")", -3, x.bound(1, n));
        due.is("nor now", 0, x.bound(1, 0));
    }

    private static void boundOfTheMachine() {
        LoaderModels x = new LoaderModels();
        for (int n = 0; n <= 40; n++) due.is("bound(0, " + n + ")", -4, x.bound(0, n));
        due.is("the MACHINE LOADS itself alone", 0, x.load(0, 0));
        due.is("in one LOAD", 1, x.told(5));
    }

    private static void boundsRefusalsInOrder() {
        LoaderModels x = new LoaderModels();
        x.loader(0);
        for (int loader : Due.notBelow(2)) {
            due.is("UNKNOWN alone", -2, x.bound(loader, 0));
            due.is("UNKNOWN before OUTSIDE", -2, x.bound(loader, 41));
            due.is("UNKNOWN before OUTSIDE", -2, x.bound(loader, -1));
        }
        due.is("OUTSIDE before STATE", -3, x.bound(0, 41));
        due.is("OUTSIDE before STATE", -3, x.bound(0, -1));
        due.is("STATE alone", -4, x.bound(0, 40));
    }

    private static void fileOfNamesOutside() {
        LoaderModels x = new LoaderModels();
        for (int n : Due.notBelow(40)) {
            due.is("NAME " + n, -3, x.file(n, 5, 5, 1, false));
            due.is("INNER " + n, -3, x.file(5, n, 5, 1, false));
            due.is("ABOVE " + n, -3, x.file(5, 5, n, 1, false));
            due.is("all three " + n, -3, x.file(n, n, n, 1, true));
        }
        due.is("no file came of it", 5, x.told(1));
        due.is("the smallest NAMES", 5, x.file(0, 0, 0, 1, false));
        due.is("the largest NAMES", 6, x.file(39, 39, 39, 1, false));
        due.is("NAME, INNER and ABOVE may be three", 7, x.file(39, 0, 20, 1, true));
        due.is("a NAME may have two files", 8, x.file(39, 39, 39, 1, false));
    }

    private static void fileOfAnyContent() {
        LoaderModels x = new LoaderModels();
        int[] contents = {0, 1, -1, Integer.MAX_VALUE, Integer.MIN_VALUE};
        for (int i = 0; i < contents.length; i++) due.is("CONTENT " + contents[i], 5 + i, x.file(5, 5, 0, contents[i], false));
    }

    private static void filesAreThirtyAtMost() {
        LoaderModels x = new LoaderModels();
        for (int f = 5; f < 30; f++) due.is("file " + f, f, x.file(f, f, 0, f, false));
        due.is("the 31st", -5, x.file(30, 30, 0, 30, false));
        due.is("again", -5, x.file(5, 5, 0, 1, true));
        due.is("they stay thirty", 30, x.told(1));
        due.is("a 31st is none", -2, x.define(0, 30));
        due.is("the last one is as it was made", 1, x.define(0, 29));
        due.is("its NAME", 29, x.about(1, 0));
        due.is("its CONTENT", 1000 / 29, x.value(1));
        due.is("the first one made is, too", 2, x.define(0, 5));
        due.is("its CONTENT", 200, x.value(2));
    }

    private static void fileIsOutsideBeforeFull() {
        LoaderModels x = new LoaderModels();
        for (int f = 5; f < 30; f++) x.file(f, f, 0, 1, false);
        due.is("NAME", -3, x.file(40, 0, 0, 1, false));
        due.is("INNER", -3, x.file(0, -1, 0, 1, false));
        due.is("ABOVE", -3, x.file(0, 0, 40, 1, false));
        due.is("FULL alone", -5, x.file(0, 0, 0, 1, false));
    }

    private static void methodOfAnUnknownFile() {
        LoaderModels x = new LoaderModels();
        for (int file : Due.notBelow(5)) due.is("method(" + file + ", ..)", -2, x.method(file, 0, 0, 1, 1));
        due.is("the MACHINE's last file", 1, x.method(4, 0, 0, 1, 1));
        x.file(5, 5, 0, 1, false);
        for (int file : Due.notBelow(6)) due.is("method(" + file + ", ..)", -2, x.method(file, 0, 0, 1, 1));
        due.is("the one just made", 1, x.method(5, 0, 0, 1, 1));
    }

    private static void methodsAreNoughtToThree() {
        LoaderModels x = new LoaderModels();
        x.load(0, 0);
        x.make(0);
        for (int m : Due.notBelow(4)) due.is("m " + m, -3, x.method(0, m, 0, 1, 1));
        for (int m = 0; m < 4; m++) due.is("none came of it", Due.REFUSED + 20, x.call(0, m, 1));
        for (int m = 0; m < 4; m++) due.is("m " + m, 1, x.method(0, m, 0, 0, 10 + m));
        for (int m = 0; m < 4; m++) due.is("each has its own", 10 + m, x.call(0, m, 1));
    }

    private static void kindsAreNoughtToTwo() {
        LoaderModels x = new LoaderModels();
        x.load(0, 1);
        x.make(1);
        x.method(0, 0, 0, 3, 1);
        for (int kind : Due.notBelow(3)) due.is("kind " + kind, -3, x.method(1, 0, kind, 1, 1));
        due.is("none came of it", 7, x.call(0, 0, 2));
        due.is("kind 0", 1, x.method(1, 0, 0, 5, 1));
        due.is("kind 0", 11, x.call(0, 0, 2));
        due.is("kind 1", 1, x.method(1, 0, 1, 5, 1));
        due.is("kind 1", 8, x.call(0, 0, 2));
        due.is("kind 2", 1, x.method(1, 0, 2, 5, 1));
        due.is("kind 2", 1011, x.call(0, 0, 2));
    }

    private static void methodIsUnknownBeforeOutside() {
        LoaderModels x = new LoaderModels();
        for (int file : Due.notBelow(5)) {
            due.is("and m", -2, x.method(file, 4, 0, 0, 0));
            due.is("and kind", -2, x.method(file, 0, 3, 0, 0));
            due.is("and both", -2, x.method(file, -1, -1, 0, 0));
        }
        due.is("m and kind", -3, x.method(4, 4, 3, 0, 0));
    }

    private static void methodInPlaceOfAnother() {
        LoaderModels x = new LoaderModels();
        x.load(0, 0);
        x.make(0);
        x.method(0, 3, 0, 1, 0);
        due.is("the first", 9, x.call(0, 3, 9));
        x.method(0, 3, 2, 1, 0);
        due.is("another kind in its place", 1009, x.call(0, 3, 9));
        x.method(0, 3, 0, 2, 0);
        due.is("the first kind in that one's place", 18, x.call(0, 3, 9));
        due.is("refused", -3, x.method(0, 3, 3, 7, 7));
        due.is("the latest stays", 18, x.call(0, 3, 9));
    }

    private static void methodOfAnyNumbers() {
        LoaderModels x = new LoaderModels();
        x.load(0, 0);
        x.make(0);
        for (int a : new int[] {0, 1, -1, Integer.MAX_VALUE, Integer.MIN_VALUE}) {
            for (int b : new int[] {0, 1, -1, Integer.MAX_VALUE, Integer.MIN_VALUE}) {
                due.is("a " + a + ", b " + b, 1, x.method(0, 0, 0, a, b));
                due.is("a x + b, in longs", 3L * a + b, x.call(0, 0, 3));
            }
        }
    }

    private static void bearOfUnknownOnes() {
        LoaderModels x = new LoaderModels();
        x.loader(0);
        x.file(9, 9, 0, 1, false);
        for (int loader : Due.notBelow(2)) due.is("bear(" + loader + ", 5)", -2, x.bear(loader, 5));
        for (int file : Due.notBelow(6)) {
            due.is("bear(1, " + file + ")", -2, x.bear(1, file));
            due.is("UNKNOWN before STATE", -2, x.bear(0, file));
        }
        due.is("nobody HAS it", -11, x.load(1, 9));
        due.is("the last file, by the last LOADER", 1, x.bear(1, 5));
        due.is("now it HAS it", 1, x.load(1, 9));
    }

    private static void bearOfTheMachine() {
        LoaderModels x = new LoaderModels();
        x.file(9, 9, 0, 1, false);
        x.file(3, 3, 0, 10, false);
        for (int file = 0; file < 7; file++) due.is("bear(0, " + file + ")", -4, x.bear(0, file));
        due.is("it HAS no more", -11, x.load(0, 9));
        due.is("it HAS its own", 1, x.load(0, 3));
        due.is("file 3, not 6", 3, x.about(1, 3));
    }

    private static void bearInPlaceOfAnother() {
        LoaderModels x = new LoaderModels();
        x.loader(0);
        x.file(9, 9, 0, 1, false);
        x.file(9, 9, 0, 2, false);
        x.file(39, 39, 0, 3, false);
        due.is("one", 1, x.bear(1, 5));
        due.is("the same again", 1, x.bear(1, 5));
        due.is("one of another NAME", 1, x.bear(1, 7));
        due.is("one of that NAME", 1, x.bear(1, 6));
        due.is("load", 1, x.load(1, 9));
        due.is("the latest", 6, x.about(1, 3));
        due.is("load", 2, x.load(1, 39));
        due.is("the other NAME's stays", 7, x.about(2, 3));
    }

    private static void bearOfTheMachinesNames() {
        LoaderModels x = new LoaderModels();
        x.loader(0);
        for (int file = 0; file < 5; file++) {
            due.is("it may HAVE file " + file, 1, x.bear(1, file));
            due.is("but not DEFINE it", -14, x.load(1, file));
        }
        due.is("no class came of it", 0, x.told(2));
    }
}
