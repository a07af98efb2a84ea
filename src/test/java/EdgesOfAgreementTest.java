/** The edges that the document names in promises 10 and 11, and in "AGREED": each sentence has a method here. */
public final class EdgesOfAgreementTest {
    private static final Due due = new Due();

    public static void main(String[] args) {
        agreeIsRefused();
        aRefusalBindsNobody();
        agreeWithItself();
        agreeOnEveryName();
        agreeBindsTheDefiners();
        agreeBindsOneNameAlone();
        nobodyKnowsOneYet();
        oneKnowsOne();
        bothKnowTheSame();
        theyKnowTwo();
        thoseBoundKnowTwo();
        nothingChangesThen();
        allEightAreBound();
        theMachineIsBoundToo();
        onlyWhoAsksIsBarred();
        agreedTwice();
        apartIsRefused();
        apartIsOfTwoOfOneName();
        due.end();
    }

    /** Seven LOADERS below the MACHINE, class i (1 to 7) of LOADER i, all of NAME 10; class 0 is the MACHINE's; file 6 of NAME 20. */
    private static LoaderModels seven() {
        LoaderModels x = new LoaderModels();
        x.file(10, 10, 0, 1, false);
        x.file(20, 20, 0, 1, false);
        for (int i = 1; i < 8; i++) {
            x.loader(0);
            due.is("class " + i, i, x.define(i, 5));
        }
        return x;
    }

    private static void agreeIsRefused() {
        LoaderModels x = seven();
        for (int c : Due.notBelow(8)) {
            due.is("UNKNOWN first", -2, x.agree(c, 1, 20));
            due.is("UNKNOWN second", -2, x.agree(1, c, 20));
            due.is("UNKNOWN before OUTSIDE", -2, x.agree(c, 1, 40));
            due.is("UNKNOWN before OUTSIDE", -2, x.agree(1, c, -1));
            due.is("UNKNOWN before FAILURE", -2, x.agree(1, c, 10));
        }
        for (int name : Due.notBelow(40)) due.is("OUTSIDE " + name, -3, x.agree(1, 2, name));
        due.is("no FAILURE", 0, x.told(6));
        LoaderModels y = new LoaderModels();
        due.is("where there is no class", -2, y.agree(0, 0, 0));
    }

    private static void aRefusalBindsNobody() {
        LoaderModels x = seven();
        x.agree(1, 8, 20);
        x.agree(1, 2, 40);
        x.agree(-1, 2, 20);
        for (int i = 0; i < 8; i++) due.is("free", 8 + i, x.define(i, 6));
    }

    private static void agreeWithItself() {
        LoaderModels x = seven();
        due.is("a class with itself, on what it KNOWS", 1, x.agree(1, 1, 10));
        due.is("on what it KNOWS not", 1, x.agree(1, 1, 20));
        due.is("it may DEFINE that", 8, x.define(1, 6));
        due.is("two classes of one LOADER", 1, x.agree(1, 8, 20));
        due.is("others are free", 9, x.define(2, 6));
    }

    private static void agreeOnEveryName() {
        LoaderModels x = seven();
        for (int name = 0; name < 40; name++) due.is("NAME " + name, name == 10 ? -13 : 1, x.agree(1, 2, name));
    }

    private static void agreeBindsTheDefiners() {
        LoaderModels x = new LoaderModels();
        x.loader(0);
        x.loader(1);
        x.loader(0);
        x.file(10, 10, 0, 1, false);
        x.file(20, 20, 0, 1, false);
        x.bear(1, 5);
        due.is("LOADER 2 asked for it, 1 DEFINED it", 1, x.load(2, 10));
        due.is("class 2 of LOADER 3", 2, x.define(3, 5));
        due.is("agree", 1, x.agree(1, 2, 20));
        due.is("LOADER 3 KNOWS one", 3, x.define(3, 6));
        due.is("LOADER 2 is not bound", 4, x.define(2, 6));
        due.is("LOADER 1 is", -13, x.define(1, 6));
    }

    private static void agreeBindsOneNameAlone() {
        LoaderModels x = seven();
        x.file(19, 19, 0, 1, false);
        x.file(21, 21, 0, 1, false);
        due.is("agree", 1, x.agree(1, 2, 20));
        for (int f = 7; f < 9; f++) {
            due.is("another NAME", 2 * f - 6, x.define(1, f));
            due.is("another NAME", 2 * f - 5, x.define(2, f));
        }
        due.is("this NAME", 12, x.define(1, 6));
        due.is("this NAME", -13, x.define(2, 6));
    }

    private static void nobodyKnowsOneYet() {
        LoaderModels x = seven();
        due.is("agree", 1, x.agree(1, 2, 20));
        due.is("the first to KNOW one", 8, x.define(2, 6));
        due.is("bars the other", -13, x.define(1, 6));
        due.is("who KNOWS none", -1, x.known(1, 20));
    }

    private static void oneKnowsOne() {
        LoaderModels x = seven();
        due.is("define", 8, x.define(1, 6));
        due.is("one that KNOWS and one that does not", 1, x.agree(2, 1, 20));
        due.is("the other is barred now", -13, x.define(2, 6));
    }

    private static void bothKnowTheSame() {
        LoaderModels x = seven();
        for (int i = 1; i < 8; i++) due.is("load", 0, x.load(i, 0));
        for (int i = 0; i < 7; i++) due.is("agree on what both got", 1, x.agree(i, i + 1, 0));
    }

    private static void theyKnowTwo() {
        LoaderModels x = seven();
        for (int a = 1; a < 8; a++) {
            for (int b = 1; b < 8; b++) due.is("agree(" + a + ", " + b + ")", a == b ? 1 : -13, x.agree(a, b, 10));
            due.is("the MACHINE KNOWS none", a == 1 ? 1 : -13, x.agree(0, a, 10));
        }
        due.is("LINKAGE", 3, x.told(6));
    }

    private static void thoseBoundKnowTwo() {
        LoaderModels x = seven();
        due.is("1 KNOWS one", 8, x.define(1, 6));
        due.is("7 KNOWS another", 9, x.define(7, 6));
        for (int i = 1; i < 3; i++) due.is("1, 2, 3", 1, x.agree(i, i + 1, 20));
        for (int i = 4; i < 7; i++) due.is("4, 5, 6, 7", 1, x.agree(i, i + 1, 20));
        for (int a = 1; a <= 3; a++) {
            for (int b = 4; b <= 7; b++) {
                due.is("agree(" + a + ", " + b + ")", -13, x.agree(a, b, 20));
                due.is("agree(" + b + ", " + a + ")", -13, x.agree(b, a, 20));
            }
        }
        due.is("the MACHINE may still", 1, x.agree(0, 3, 20));
        due.is("and is on that side then", -13, x.agree(0, 4, 20));
    }

    private static void nothingChangesThen() {
        LoaderModels x = seven();
        due.is("1 KNOWS one", 8, x.define(1, 6));
        due.is("2 KNOWS another", 9, x.define(2, 6));
        due.is("3 with 1", 1, x.agree(3, 1, 20));
        due.is("refused", -13, x.agree(3, 2, 20));
        due.is("4 with 2", 1, x.agree(4, 2, 20));
        due.is("refused", -13, x.agree(4, 1, 20));
        due.is("5 with 4, not with 1", 1, x.agree(5, 4, 20));
        due.is("6 with 3, not with 2", 1, x.agree(6, 3, 20));
        due.is("known stays", 8, x.known(1, 20));
        due.is("known stays", 9, x.known(2, 20));
        due.is("7 is free", 10, x.define(7, 6));
        due.is("classes", 11, x.told(2));
    }

    private static void allEightAreBound() {
        LoaderModels x = seven();
        for (int i = 0; i < 7; i++) due.is("agree", 1, x.agree(i, i + 1, 20));
        due.is("the last one", 8, x.define(7, 6));
        for (int i = 0; i < 7; i++) due.is("LOADER " + i + " is barred", -13, x.define(i, 6));
        for (int i = 0; i < 7; i++) due.is("and KNOWS none", -1, x.known(i, 20));
        due.is("ABSENT stays ABSENT", -11, x.load(3, 20));
    }

    private static void theMachineIsBoundToo() {
        LoaderModels x = seven();
        due.is("the MACHINE KNOWS one", 8, x.define(0, 6));
        due.is("it alone does", 1, x.agree(0, 1, 20));
        due.is("LOADER 1 is barred by it", -13, x.define(1, 6));
        due.is("but may have the same", 8, x.load(1, 20));
        due.is("LOADER 2 KNOWS another", 9, x.define(2, 6));
        due.is("refused", -13, x.agree(2, 0, 20));
        x.file(21, 21, 0, 1, false);
        due.is("agree", 1, x.agree(0, 3, 21));
        due.is("LOADER 3 KNOWS one", 10, x.define(3, 7));
        due.is("the MACHINE is barred by it", -13, x.define(0, 7));
        due.is("and KNOWS none", -1, x.known(0, 21));
        due.is("NAME 0, of which there is one class ever", 1, x.agree(0, 7, 0));
        due.is("is never barred", 0, x.load(7, 0));
    }

    private static void onlyWhoAsksIsBarred() {
        LoaderModels x = new LoaderModels();
        for (int i = 0; i < 4; i++) x.loader(i);
        x.loader(0);
        x.file(10, 10, 0, 1, false);
        x.file(20, 20, 0, 1, false);
        due.is("class 1 of LOADER 3", 1, x.define(3, 5));
        due.is("class 2 of LOADER 5", 2, x.define(5, 5));
        due.is("class 3 of LOADER 5", 3, x.define(5, 6));
        due.is("3 and 5 agree", 1, x.agree(1, 2, 20));
        x.bear(1, 6);
        due.is("4 asks 3, which is barred", -13, x.load(4, 20));
        for (int i = 0; i < 6; i++) {
            due.is("known(" + i + ", 20)", i == 5 ? 3 : i == 1 || i == 2 ? 4 : -1, x.known(i, 20));
        }
    }

    private static void agreedTwice() {
        LoaderModels x = seven();
        for (int again = 0; again < 3; again++) {
            due.is("agree", 1, x.agree(1, 2, 20));
            due.is("the other way", 1, x.agree(2, 1, 20));
        }
        due.is("define", 8, x.define(1, 6));
        due.is("and again", 1, x.agree(1, 2, 20));
        due.is("barred", -13, x.define(2, 6));
    }

    private static void apartIsRefused() {
        LoaderModels x = seven();
        for (int c : Due.notBelow(8)) {
            due.is("UNKNOWN first", -2, x.apart(c, 1));
            due.is("UNKNOWN second", -2, x.apart(1, c));
            due.is("UNKNOWN both", -2, x.apart(c, c));
        }
        LoaderModels y = new LoaderModels();
        due.is("where there is no class", -2, y.apart(0, 0));
    }

    private static void apartIsOfTwoOfOneName() {
        LoaderModels x = seven();
        due.is("class 8, of NAME 20", 8, x.define(7, 6));
        for (int a = 0; a < 9; a++) {
            for (int b = 0; b < 9; b++) {
                boolean areOfTen = a > 0 && a < 8 && b > 0 && b < 8;
                due.is("apart(" + a + ", " + b + ")", areOfTen && a != b ? 1 : 0, x.apart(a, b));
            }
        }
    }
}
