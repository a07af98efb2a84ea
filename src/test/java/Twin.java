import java.util.ArrayList;
import java.util.HashMap;
import java.util.HashSet;
import java.util.List;
import java.util.Map;
import java.util.Set;

/** The document told a second time, as plainly as it can be: recursion, exceptions, collections. */
final class Twin {
    static final class Failure extends Exception {
        private static final long serialVersionUID = 1;
        final int code;

        Failure(int code) {
            super(null, null, false, false);
            this.code = code;
        }
    }

    static final class F {
        int number, name, inner, above, content;
        boolean isFinal;
        int[][] methods = new int[4][];
    }

    static final class L {
        int number, bound;
        L parent;
        Map<Integer, F> has = new HashMap<>();
        Map<Integer, C> knows = new HashMap<>();
        Set<Integer> defining = new HashSet<>();
    }

    static final class C {
        int number, state;
        long held;
        L definer;
        F file;
        C above;

        boolean isOf(C c) {
            return this == c || above != null && above.isOf(c);
        }
    }

    static final class R {
        C of;
        int[] items;
    }

    final List<F> files = new ArrayList<>();
    final List<L> loaders = new ArrayList<>();
    final List<C> classes = new ArrayList<>();
    final List<C> objects = new ArrayList<>();
    final List<R> rows = new ArrayList<>();
    final List<Integer> notes = new ArrayList<>();
    final List<int[]> agreements = new ArrayList<>();
    int latest = 0;

    Twin() {
        loaders.add(new L());
        for (int i = 0; i < 5; i++) loaders.get(0).has.put(i, files.get(file(i, i, 0, 1, false)));
    }

    static boolean in(int i, List<?> list) {
        return i >= 0 && i < list.size();
    }

    static boolean name(int n) {
        return n >= 0 && n < 40;
    }

    int fail(Failure f) {
        return fail(f.code);
    }

    int fail(int code) {
        latest = code;
        return -10 - code;
    }

    int loader(int parent) {
        if (!in(parent, loaders)) return -2;
        if (loaders.size() == 8) return -5;
        L l = new L();
        l.number = loaders.size();
        l.parent = loaders.get(parent);
        loaders.add(l);
        return l.number;
    }

    int bound(int loader, int n) {
        if (!in(loader, loaders)) return -2;
        if (n < 0 || n > 40) return -3;
        if (loader == 0) return -4;
        int was = loaders.get(loader).bound;
        loaders.get(loader).bound = n;
        return was;
    }

    int file(int name, int inner, int above, int content, boolean isFinal) {
        if (!name(name) || !name(inner) || !name(above)) return -3;
        if (files.size() == 30) return -5;
        F f = new F();
        f.number = files.size();
        f.name = name;
        f.inner = inner;
        f.above = above;
        f.content = content;
        f.isFinal = isFinal;
        files.add(f);
        return f.number;
    }

    int method(int file, int m, int kind, int a, int b) {
        if (!in(file, files)) return -2;
        if (m < 0 || m > 3 || kind < 0 || kind > 2) return -3;
        files.get(file).methods[m] = new int[] {kind, a, b};
        return 1;
    }

    int bear(int loader, int file) {
        if (!in(loader, loaders) || !in(file, files)) return -2;
        if (loader == 0) return -4;
        loaders.get(loader).has.put(files.get(file).name, files.get(file));
        return 1;
    }

    Set<L> boundTo(L l, int name) {
        Set<L> all = new HashSet<>();
        all.add(l);
        for (int round = 0; round < 8; round++) {
            for (int[] a : agreements) {
                L p = loaders.get(a[0]);
                L q = loaders.get(a[1]);
                if (a[2] == name && (all.contains(p) || all.contains(q))) {
                    all.add(p);
                    all.add(q);
                }
            }
        }
        return all;
    }

    Set<C> knownBy(Set<L> all, int name) {
        Set<C> known = new HashSet<>();
        for (L l : all) if (l.knows.containsKey(name)) known.add(l.knows.get(name));
        return known;
    }

    C loads(L l, int name) throws Failure {
        notes.add(64 * l.number + name);
        if (l.knows.containsKey(name)) return l.knows.get(name);
        if (l.defining.contains(name)) throw new Failure(6);
        if (l.parent == null) {
            if (!l.has.containsKey(name)) throw new Failure(1);
            return defines(l, l.has.get(name));
        }
        if (name < l.bound) {
            try {
                return takes(l, name, loads(l.parent, name));
            } catch (Failure f) {
                if (f.code != 1) throw f;
            }
            if (!l.has.containsKey(name)) throw new Failure(1);
            return defines(l, l.has.get(name));
        }
        if (l.has.containsKey(name)) return defines(l, l.has.get(name));
        return takes(l, name, loads(l.parent, name));
    }

    C takes(L l, int name, C c) throws Failure {
        Set<C> known = knownBy(boundTo(l, name), name);
        known.add(c);
        if (known.size() > 1) throw new Failure(3);
        l.knows.put(name, c);
        return c;
    }

    C defines(L l, F f) throws Failure {
        if (f.name < 5 && l.number != 0) throw new Failure(4);
        if (f.inner != f.name) throw new Failure(2);
        if (l.knows.containsKey(f.name)) throw new Failure(3);
        if (l.defining.contains(f.name)) throw new Failure(6);
        C above = null;
        if (f.name != 0) {
            l.defining.add(f.name);
            try {
                above = loads(l, f.above);
            } catch (Failure e) {
                throw e.code == 1 ? new Failure(2) : e;
            } finally {
                l.defining.remove(f.name);
            }
            if (above.file.isFinal) throw new Failure(7);
        }
        if (!knownBy(boundTo(l, f.name), f.name).isEmpty()) throw new Failure(3);
        if (classes.size() == 40) throw new Failure(12);
        C c = new C();
        c.number = classes.size();
        c.definer = l;
        c.file = f;
        c.above = above;
        classes.add(c);
        l.knows.put(f.name, c);
        return c;
    }

    int load(int loader, int name) {
        if (!in(loader, loaders)) return -2;
        if (!name(name)) return -3;
        try {
            return loads(loaders.get(loader), name).number;
        } catch (Failure f) {
            return fail(f);
        }
    }

    int define(int loader, int file) {
        if (!in(loader, loaders) || !in(file, files)) return -2;
        try {
            return defines(loaders.get(loader), files.get(file)).number;
        } catch (Failure f) {
            return fail(f);
        }
    }

    int known(int loader, int name) {
        if (!in(loader, loaders)) return -2;
        if (!name(name)) return -3;
        C c = loaders.get(loader).knows.get(name);
        return c == null ? -1 : c.number;
    }

    int agree(int a, int b, int name) {
        if (!in(a, classes) || !in(b, classes)) return -2;
        if (!name(name)) return -3;
        L p = classes.get(a).definer;
        L q = classes.get(b).definer;
        Set<L> all = boundTo(p, name);
        all.addAll(boundTo(q, name));
        if (knownBy(all, name).size() > 1) return fail(3);
        agreements.add(new int[] {p.number, q.number, name});
        return 1;
    }

    int apart(int a, int b) {
        if (!in(a, classes) || !in(b, classes)) return -2;
        return a != b && classes.get(a).file.name == classes.get(b).file.name ? 1 : 0;
    }

    void starts(C c) throws Failure {
        if (c.state == 1) return;
        if (c.state == 2) throw new Failure(2);
        try {
            if (c.above != null) starts(c.above);
            if (c.file.content == 0) throw new Failure(9);
        } catch (Failure f) {
            c.state = 2;
            throw f;
        }
        c.state = 1;
        c.held = 1000 / c.file.content;
    }

    int start(int c) {
        if (!in(c, classes)) return -2;
        try {
            starts(classes.get(c));
            return 1;
        } catch (Failure f) {
            return fail(f);
        }
    }

    long value(int c) {
        int answer = start(c);
        return answer == 1 ? classes.get(c).held : Long.MIN_VALUE - answer;
    }

    int make(int c) {
        if (!in(c, classes)) return -2;
        if (objects.size() == 60) return -5;
        int answer = start(c);
        if (answer != 1) return answer;
        objects.add(classes.get(c));
        return objects.size() - 1;
    }

    int cast(int o, int c) {
        if (!in(o, objects) || !in(c, classes)) return -2;
        return objects.get(o).isOf(classes.get(c)) ? 1 : fail(5);
    }

    int row(int c, int n) {
        if (!in(c, classes)) return -2;
        if (n < 0 || n > 8) return -3;
        if (rows.size() == 20) return -5;
        R r = new R();
        r.of = classes.get(c);
        r.items = new int[n];
        java.util.Arrays.fill(r.items, -1);
        rows.add(r);
        return rows.size() - 1;
    }

    int put(int row, int i, int o) {
        if (!in(row, rows) || o != -1 && !in(o, objects)) return -2;
        R r = rows.get(row);
        if (i < 0 || i >= r.items.length) return fail(11);
        if (o != -1 && !objects.get(o).isOf(r.of)) return fail(8);
        r.items[i] = o;
        return 1;
    }

    int get(int row, int i) {
        if (!in(row, rows)) return -2;
        R r = rows.get(row);
        return i < 0 || i >= r.items.length ? fail(11) : r.items[i];
    }

    int castRow(int row, int c) {
        if (!in(row, rows) || !in(c, classes)) return -2;
        return rows.get(row).of.isOf(classes.get(c)) ? 1 : fail(5);
    }

    long comesTo(C c, int m, long x) throws Failure {
        if (c == null) throw new Failure(10);
        int[] body = c.file.methods[m];
        if (body == null) return comesTo(c.above, m, x);
        if (body[0] == 0) return body[1] * x + body[2];
        if (body[0] == 1) return comesTo(c.above, m, x) + body[2];
        c.held = c.held + body[1] * x;
        return c.held + body[2];
    }

    long call(int o, int m, long x) {
        if (!in(o, objects)) return Long.MIN_VALUE + 2;
        if (m < 0 || m > 3) return Long.MIN_VALUE + 3;
        try {
            return comesTo(objects.get(o), m, x);
        } catch (Failure f) {
            return Long.MIN_VALUE - fail(f);
        }
    }

    int about(int c, int what) {
        if (!in(c, classes)) return -2;
        if (what < 0 || what > 4) return -3;
        C k = classes.get(c);
        int[] all = {k.file.name, k.definer.number, k.above == null ? -1 : k.above.number, k.file.number, k.state};
        return all[what];
    }

    int noted(int i) {
        return i < 0 || i >= 30 || i >= notes.size() ? -1 : notes.get(notes.size() - 1 - i);
    }

    int told(int what) {
        int[] all = {loaders.size(), files.size(), classes.size(), objects.size(), rows.size(), notes.size(), latest};
        return what < 0 || what > 6 ? -3 : all[what];
    }
}
