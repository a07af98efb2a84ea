/** Promises 15 to 20: cast, row, put, get, castRow, call. */
public final class UsingTest {
    private static final Due due = new Due();

    public static void main(String[] args) {
        casts();
        rows();
        putsAndGets();
        castRows();
        calls();
        callsAboveFail();
        callsWrap();
        due.end();
    }

    /** Loaders 1, 2; classes 1 and 2 of NAME 10 by 1 and 2; 3 (NAME 11) below 1; 4 (NAME 11) below 2; an OBJECT of each. */
    private static LoaderModels pairs() {
        LoaderModels x = new LoaderModels();
        x.loader(0);
        x.loader(0);
        x.file(10, 10, 0, 10, false);
        x.file(11, 11, 10, 20, false);
        due.is("define", 1, x.define(1, 5));
        due.is("define", 2, x.define(2, 5));
        due.is("define", 3, x.define(1, 6));
        due.is("define", 4, x.define(2, 6));
        for (int c = 0; c < 5; c++) due.is("make", c, x.make(c));
        return x;
    }

    private static final int[][] OF = {{0}, {0, 1}, {0, 2}, {0, 1, 3}, {0, 2, 4}};

    private static boolean isOf(int own, int wanted) {
        for (int c : OF[own]) if (c == wanted) return true;
        return false;
    }

    private static void casts() {
        LoaderModels x = pairs();
        due.is("cast(5, 0)", -2, x.cast(5, 0));
        due.is("cast(-1, 0)", -2, x.cast(-1, 0));
        due.is("cast(0, 5)", -2, x.cast(0, 5));
        due.is("cast(0, -1)", -2, x.cast(0, -1));
        due.is("told(6)", 0, x.told(6));
        for (int o = 0; o < 5; o++) {
            for (int c = 0; c < 5; c++) due.is("cast(" + o + ", " + c + ")", isOf(o, c) ? 1 : -15, x.cast(o, c));
        }
        due.is("told(6)", 5, x.told(6));
    }

    private static void rows() {
        LoaderModels x = pairs();
        due.is("row(5, 9)", -2, x.row(5, 9));
        due.is("row(-1, 0)", -2, x.row(-1, 0));
        due.is("row(0, 9)", -3, x.row(0, 9));
        due.is("row(0, -1)", -3, x.row(0, -1));
        due.is("told(4)", 0, x.told(4));
        for (int r = 0; r < 20; r++) {
            due.is("row " + r, r, x.row(r % 5, r % 9));
            for (int i = -1; i < 10; i++) due.is("get", i >= 0 && i < r % 9 ? -1 : -21, x.get(r, i));
        }
        due.is("the 21st", -5, x.row(0, 0));
        due.is("OUTSIDE first", -3, x.row(0, 9));
        due.is("UNKNOWN first", -2, x.row(5, 9));
        due.is("told(4)", 20, x.told(4));
        due.is("get(20, 0)", -2, x.get(20, 0));
        due.is("castRow(19, 0)", 1, x.castRow(19, 0));
        due.is("castRow(20, 0)", -2, x.castRow(20, 0));
    }

    private static void putsAndGets() {
        LoaderModels x = pairs();
        x.row(1, 2);
        x.row(0, 0);
        due.is("put(2, 0, 0)", -2, x.put(2, 0, 0));
        due.is("put(-1, 0, 0)", -2, x.put(-1, 0, 0));
        due.is("put(0, 0, 5)", -2, x.put(0, 0, 5));
        due.is("put(0, 0, -2)", -2, x.put(0, 0, -2));
        due.is("UNKNOWN before INDEX", -2, x.put(0, 9, 5));
        due.is("get(2, 0)", -2, x.get(2, 0));
        due.is("get(-1, 0)", -2, x.get(-1, 0));
        due.is("told(6)", 0, x.told(6));
        due.is("INDEX before STORE", -21, x.put(0, 2, 0));
        due.is("INDEX", -21, x.put(0, -1, 1));
        due.is("INDEX of nothing", -21, x.put(0, 2, -1));
        due.is("INDEX of a ROW of none", -21, x.put(1, 0, 0));
        due.is("told(6)", 11, x.told(6));
        for (int o = 0; o < 5; o++) due.is("put(0, 1, " + o + ")", isOf(o, 1) ? 1 : -18, x.put(0, 1, o));
        due.is("told(6)", 8, x.told(6));
        due.is("what failed was not put", 3, x.get(0, 1));
        due.is("the other place", -1, x.get(0, 0));
        due.is("nothing", 1, x.put(0, 1, -1));
        due.is("get", -1, x.get(0, 1));
        due.is("get(0, 2)", -21, x.get(0, 2));
        due.is("get(0, -1)", -21, x.get(0, -1));
        due.is("get(0, MIN)", -21, x.get(0, Integer.MIN_VALUE));
        due.is("told(6)", 11, x.told(6));
    }

    private static void castRows() {
        LoaderModels x = pairs();
        for (int c = 0; c < 5; c++) x.row(c, 1);
        due.is("castRow(5, 0)", -2, x.castRow(5, 0));
        due.is("castRow(-1, 0)", -2, x.castRow(-1, 0));
        due.is("castRow(0, 5)", -2, x.castRow(0, 5));
        due.is("castRow(0, -1)", -2, x.castRow(0, -1));
        x.put(0, 0, 3);
        for (int r = 0; r < 5; r++) {
            for (int c = 0; c < 5; c++) due.is("castRow(" + r + ", " + c + ")", isOf(r, c) ? 1 : -15, x.castRow(r, c));
        }
        due.is("told(6)", 5, x.told(6));
    }

    private static void calls() {
        LoaderModels x = pairs();
        due.is("call(5, 4, 0)", Due.REFUSED + 2, x.call(5, 4, 0));
        due.is("call(-1, 0, 0)", Due.REFUSED + 2, x.call(-1, 0, 0));
        due.is("call(0, 4, 0)", Due.REFUSED + 3, x.call(0, 4, 0));
        due.is("call(0, -1, 0)", Due.REFUSED + 3, x.call(0, -1, 0));
        due.is("told(6)", 0, x.told(6));
        due.is("NO METHOD", Due.REFUSED + 20, x.call(3, 0, 0));
        due.is("told(6)", 10, x.told(6));
        x.method(5, 0, 0, 3, 4);
        due.is("kind 0", 34, x.call(1, 0, 10));
        due.is("of the class above", 34, x.call(3, 0, 10));
        due.is("not below", Due.REFUSED + 20, x.call(0, 0, 10));
        x.method(6, 0, 0, -3, 4);
        due.is("the nearest", -26, x.call(3, 0, 10));
        due.is("the one above has its own", 34, x.call(1, 0, 10));
        x.method(6, 0, 1, 999, 1000);
        due.is("kind 1", 1034, x.call(3, 0, 10));
        x.method(5, 0, 2, 2, 7);
        due.is("kind 2, by kind 1", 100 + 20 + 7 + 1000, x.call(3, 0, 10));
        due.is("the STATIC of the class that has it", 120, x.value(1));
        due.is("not of the OBJECT's class", 50, x.value(3));
        due.is("not of the other's of that file", 100, x.value(2));
        due.is("kind 2 again", 120 - 20 + 7, x.call(1, 0, -10));
        due.is("STATIC", 100, x.value(1));
        due.is("the other one", 100 + 2 + 7, x.call(2, 0, 1));
        due.is("STATIC", 102, x.value(2));
        due.is("STATIC", 100, x.value(1));
    }

    private static void callsAboveFail() {
        LoaderModels x = new LoaderModels();
        for (int f = 5; f < 10; f++) {
            x.file(f, f, f == 5 ? 0 : f - 1, 1, false);
            x.define(0, f);
        }
        due.is("make", 0, x.make(5));
        x.method(9, 1, 1, 0, 1);
        x.method(7, 1, 1, 0, 10);
        due.is("NO METHOD above", Due.REFUSED + 20, x.call(0, 1, 5));
        x.method(9, 0, 0, 1, 1);
        due.is("another METHOD above is none", Due.REFUSED + 20, x.call(0, 1, 5));
        x.method(6, 1, 0, 2, 100);
        due.is("kind 1 twice, past those that have none", 10 + 100 + 10 + 1, x.call(0, 1, 5));
        x.method(0, 1, 0, 7, 7);
        due.is("the nearest above", 121, x.call(0, 1, 5));
        x.method(6, 1, 1, 2, 100);
        due.is("all the way to NAME 0", 35 + 7 + 100 + 10 + 1, x.call(0, 1, 5));
        x.method(0, 1, 1, 0, 0);
        due.is("kind 1 with none above", Due.REFUSED + 20, x.call(0, 1, 5));
        due.is("told(6)", 10, x.told(6));
    }

    private static void callsWrap() {
        LoaderModels x = new LoaderModels();
        x.load(0, 0);
        x.make(0);
        x.method(0, 0, 0, Integer.MAX_VALUE, Integer.MIN_VALUE);
        due.is("a x + b", (long) Integer.MAX_VALUE * Integer.MAX_VALUE + Integer.MIN_VALUE, x.call(0, 0, Integer.MAX_VALUE));
        due.is("wraps", Integer.MAX_VALUE * Long.MAX_VALUE + Integer.MIN_VALUE, x.call(0, 0, Long.MAX_VALUE));
        x.method(0, 1, 2, 1, 1);
        due.is("STATIC wraps", 1000L + Long.MAX_VALUE + 1, x.call(0, 1, Long.MAX_VALUE));
        due.is("STATIC", 1000L + Long.MAX_VALUE, x.value(0));
    }
}
