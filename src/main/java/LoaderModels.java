/** Loaders of classes in one machine, as ../shared/DOC.md tells it; README.md says how to use it. */
public final class LoaderModels {
    public static final int NONE = -1, UNKNOWN = -2, OUTSIDE = -3, STATE = -4, FULL = -5;
    public static final long REFUSED = Long.MIN_VALUE;

    private static final int NAME_LIMIT = 40, MACHINE_NAMES = 5, FILE_LIMIT = 30, METHOD_LIMIT = 4;
    private static final int LOADER_LIMIT = 8, CLASS_LIMIT = 40, OBJECT_LIMIT = 60, ROW_LIMIT = 20;
    private static final int ROW_LENGTH_LIMIT = 8, NOTE_LIMIT = 30, NOTE_FACTOR = 64;

    private static final int FAILURE_BASE = -10;
    private static final int ABSENT = 1, NO_DEFINITION = 2, LINKAGE = 3, SECURITY = 4, CAST = 5, CIRCLE = 6;
    private static final int FINAL = 7, STORE = 8, START = 9, NO_METHOD = 10, INDEX = 11, ROOM = 12;

    private static final int NOT_STARTED = 0, STARTED = 1, FAILED = 2;
    private static final int STATIC_DIVIDEND = 1000;

    private static final int KIND_ABOVE = 1, KIND_STATIC = 2;

    private final ClassFile[] files = new ClassFile[FILE_LIMIT];
    private int fileCount;
    private final Loaders loaders = new Loaders();
    private final Loading loading = new Loading(loaders);
    private final Model[] objects = new Model[OBJECT_LIMIT];
    private int objectCount;
    private final Row[] rows = new Row[ROW_LIMIT];
    private int rowCount;
    private final Model[] toStart = new Model[CLASS_LIMIT];
    private int latestFailure;

    public LoaderModels() {
        Loader machine = loaders.add(null);
        for (int name = 0; name < MACHINE_NAMES; name++) {
            ClassFile own = new ClassFile(name, name, name, 0, 1, false);
            files[name] = own;
            machine.files[name] = own;
        }
        fileCount = MACHINE_NAMES;
    }

    public int loader(int parent) {
        Loader above = loaders.at(parent);
        if (above == null) return UNKNOWN;
        if (loaders.count >= LOADER_LIMIT) return FULL;
        return loaders.add(above).number;
    }

    public int bound(int loader, int n) {
        Loader bounded = loaders.at(loader);
        if (bounded == null) return UNKNOWN;
        if (n < 0 || n > NAME_LIMIT) return OUTSIDE;
        if (bounded.isMachine()) return STATE;
        int before = bounded.bound;
        bounded.bound = n;
        return before;
    }

    public int file(int name, int inner, int above, int content, boolean isFinal) {
        if (!isName(name) || !isName(inner) || !isName(above)) return OUTSIDE;
        if (fileCount >= FILE_LIMIT) return FULL;
        files[fileCount] = new ClassFile(fileCount, name, inner, above, content, isFinal);
        return fileCount++;
    }

    public int method(int file, int m, int kind, int a, int b) {
        ClassFile owner = fileAt(file);
        if (owner == null) return UNKNOWN;
        if (!isMethod(m) || kind < 0 || kind > KIND_STATIC) return OUTSIDE;
        owner.bodies[m] = new Body(kind, a, b);
        return 1;
    }

    public int bear(int loader, int file) {
        Loader bearer = loaders.at(loader);
        ClassFile borne = fileAt(file);
        if (bearer == null || borne == null) return UNKNOWN;
        if (bearer.isMachine()) return STATE;
        bearer.files[borne.name] = borne;
        return 1;
    }

    public int load(int loader, int name) {
        Loader asked = loaders.at(loader);
        if (asked == null) return UNKNOWN;
        if (!isName(name)) return OUTSIDE;
        return answered(loading.loadBy(asked, name));
    }

    public int define(int loader, int file) {
        Loader definer = loaders.at(loader);
        ClassFile defined = fileAt(file);
        if (definer == null || defined == null) return UNKNOWN;
        return answered(loading.defineBy(definer, defined));
    }

    public int known(int loader, int name) {
        Loader knower = loaders.at(loader);
        if (knower == null) return UNKNOWN;
        if (!isName(name)) return OUTSIDE;
        return numberOf(knower.knows[name]);
    }

    public int agree(int a, int b, int name) {
        Model first = loading.classAt(a);
        Model second = loading.classAt(b);
        if (first == null || second == null) return UNKNOWN;
        if (!isName(name)) return OUTSIDE;
        boolean bound = loaders.bind(first.definer, second.definer, name);
        return bound ? 1 : answered(failed(LINKAGE));
    }

    public int apart(int a, int b) {
        Model first = loading.classAt(a);
        Model second = loading.classAt(b);
        if (first == null || second == null) return UNKNOWN;
        return first != second && first.file.name == second.file.name ? 1 : 0;
    }

    public int start(int c) {
        Model model = loading.classAt(c);
        if (model == null) return UNKNOWN;
        return answered(started(model));
    }

    public long value(int c) {
        Model model = loading.classAt(c);
        if (model == null) return REFUSED - UNKNOWN;
        int answer = answered(started(model));
        return answer == 1 ? model.held : REFUSED - answer;
    }

    public int make(int c) {
        Model model = loading.classAt(c);
        if (model == null) return UNKNOWN;
        if (objectCount >= OBJECT_LIMIT) return FULL;
        int answer = answered(started(model));
        if (answer != 1) return answer;
        objects[objectCount] = model;
        return objectCount++;
    }

    public int cast(int o, int c) {
        Model own = classOfObject(o);
        Model wanted = loading.classAt(c);
        if (own == null || wanted == null) return UNKNOWN;
        return own.isOf(wanted) ? 1 : answered(failed(CAST));
    }

    public int row(int c, int n) {
        Model model = loading.classAt(c);
        if (model == null) return UNKNOWN;
        if (n < 0 || n > ROW_LENGTH_LIMIT) return OUTSIDE;
        if (rowCount >= ROW_LIMIT) return FULL;
        rows[rowCount] = new Row(model, n);
        return rowCount++;
    }

    public int put(int row, int i, int o) {
        Row target = rowAt(row);
        Model own = classOfObject(o);
        if (target == null || (own == null && o != NONE)) return UNKNOWN;
        if (!target.hasPlace(i)) return answered(failed(INDEX));
        if (own != null && !own.isOf(target.model)) return answered(failed(STORE));
        target.items[i] = o;
        return 1;
    }

    public int get(int row, int i) {
        Row source = rowAt(row);
        if (source == null) return UNKNOWN;
        return source.hasPlace(i) ? source.items[i] : answered(failed(INDEX));
    }

    public int castRow(int row, int c) {
        Row source = rowAt(row);
        Model wanted = loading.classAt(c);
        if (source == null || wanted == null) return UNKNOWN;
        return source.model.isOf(wanted) ? 1 : answered(failed(CAST));
    }

    public long call(int o, int m, long x) {
        Model own = classOfObject(o);
        if (own == null) return REFUSED - UNKNOWN;
        if (!isMethod(m)) return REFUSED - OUTSIDE;
        long sum = 0;
        for (Model model = own; model != null; model = model.above) {
            Body body = model.file.bodies[m];
            if (body == null) continue;
            sum += body.b;
            if (body.kind != KIND_ABOVE) return sum + product(model, body, x);
        }
        return REFUSED - answered(failed(NO_METHOD));
    }

    public int about(int c, int what) {
        Model model = loading.classAt(c);
        if (model == null) return UNKNOWN;
        switch (what) {
            case 0: return model.file.name;
            case 1: return model.definer.number;
            case 2: return numberOf(model.above);
            case 3: return model.file.number;
            case 4: return model.state;
            default: return OUTSIDE;
        }
    }

    public int noted(int i) {
        return loading.notes.latest(i);
    }

    public int told(int what) {
        switch (what) {
            case 0: return loaders.count;
            case 1: return fileCount;
            case 2: return loading.classCount;
            case 3: return objectCount;
            case 4: return rowCount;
            case 5: return loading.notes.ever;
            case 6: return latestFailure;
            default: return OUTSIDE;
        }
    }

    private static boolean isName(int name) {
        return name >= 0 && name < NAME_LIMIT;
    }

    private static boolean isMethod(int m) {
        return m >= 0 && m < METHOD_LIMIT;
    }

    private static int failed(int failure) {
        return FAILURE_BASE - failure;
    }

    private static int numberOf(Model model) {
        return model == null ? NONE : model.number;
    }

    private ClassFile fileAt(int file) {
        return file >= 0 && file < fileCount ? files[file] : null;
    }

    private Model classOfObject(int o) {
        return o >= 0 && o < objectCount ? objects[o] : null;
    }

    private Row rowAt(int row) {
        return row >= 0 && row < rowCount ? rows[row] : null;
    }

    // Only what a call answers is the latest FAILURE: an ABSENT that another turn made good is none.
    private int answered(int answer) {
        if (answer < FAILURE_BASE) latestFailure = FAILURE_BASE - answer;
        return answer;
    }

    // Those above must go first, so the way up is kept and then walked down again.
    private int started(Model model) {
        int count = 0;
        Model at = model;
        while (at != null && at.state == NOT_STARTED && count < CLASS_LIMIT) {
            toStart[count++] = at;
            at = at.above;
        }
        int failure = at != null && at.state == FAILED ? NO_DEFINITION : 0;
        for (int i = count - 1; i >= 0; i--) failure = toStart[i].startAfter(failure);
        return failure == 0 ? 1 : failed(failure);
    }

    private static long product(Model model, Body body, long x) {
        if (body.kind != KIND_STATIC) return body.a * x;
        model.held += body.a * x;
        return model.held;
    }

    private static final class Body {
        final int kind;
        final long a;
        final long b;

        Body(int kind, int a, int b) {
            this.kind = kind;
            this.a = a;
            this.b = b;
        }
    }

    private static final class ClassFile {
        final int number;
        final int name;
        final int inner;
        final int above;
        final int content;
        final boolean isFinal;
        final Body[] bodies = new Body[METHOD_LIMIT];

        ClassFile(int number, int name, int inner, int above, int content, boolean isFinal) {
            this.number = number;
            this.name = name;
            this.inner = inner;
            this.above = above;
            this.content = content;
            this.isFinal = isFinal;
        }
    }

    /** A class; not called that, since the word is Java's. */
    private static final class Model {
        final int number;
        final Loader definer;
        final ClassFile file;
        final Model above;
        int state = NOT_STARTED;
        long held;

        Model(int number, Loader definer, ClassFile file, Model above) {
            this.number = number;
            this.definer = definer;
            this.file = file;
            this.above = above;
        }

        boolean isOf(Model wanted) {
            for (Model at = this; at != null; at = at.above) {
                if (at == wanted) return true;
            }
            return false;
        }

        int startAfter(int failureAbove) {
            int content = file.content;
            if (failureAbove != 0 || content == 0) {
                state = FAILED;
                return failureAbove != 0 ? failureAbove : START;
            }
            state = STARTED;
            held = STATIC_DIVIDEND / content;
            return 0;
        }
    }

    private static final class Row {
        final Model model;
        final int[] items;

        Row(Model model, int length) {
            this.model = model;
            items = new int[length];
            for (int i = 0; i < length; i++) items[i] = NONE;
        }

        boolean hasPlace(int i) {
            return i >= 0 && i < items.length;
        }
    }

    private static final class Loader {
        final int number;
        final Loader parent;
        int bound;
        final ClassFile[] files = new ClassFile[NAME_LIMIT];
        final Model[] knows = new Model[NAME_LIMIT];
        final boolean[] defining = new boolean[NAME_LIMIT];
        /** For each NAME the set of LOADERS that must agree with this one on it, itself among them: a bit each. */
        final int[] agreed = new int[NAME_LIMIT];

        Loader(int number, Loader parent) {
            this.number = number;
            this.parent = parent;
            for (int name = 0; name < NAME_LIMIT; name++) agreed[name] = 1 << number;
        }

        boolean isMachine() {
            return parent == null;
        }

        boolean asksParentFirst(int name) {
            return parent != null && name < bound;
        }
    }

    private static final class Loaders {
        final Loader[] items = new Loader[LOADER_LIMIT];
        int count;

        Loader at(int number) {
            return number >= 0 && number < count ? items[number] : null;
        }

        /** The caller has looked that there is room for one more. */
        Loader add(Loader parent) {
            Loader added = new Loader(count, parent);
            if (count < LOADER_LIMIT) items[count++] = added;
            return added;
        }

        /** Whether one of a set of LOADERS KNOWS another class than this for the NAME; null is a class still to come. */
        boolean knowsAnother(int set, int name, Model model) {
            for (int i = 0; i < count; i++) {
                Model known = items[i].knows[name];
                if ((set >> i & 1) == 1 && known != null && known != model) return true;
            }
            return false;
        }

        boolean isBarred(Loader loader, int name, Model model) {
            return knowsAnother(loader.agreed[name], name, model);
        }

        boolean bind(Loader a, Loader b, int name) {
            int set = a.agreed[name] | b.agreed[name];
            if (knowsAnother(set, name, anyKnown(set, name))) return false;
            for (int i = 0; i < count; i++) {
                if ((set >> i & 1) == 1) items[i].agreed[name] = set;
            }
            return true;
        }

        Model anyKnown(int set, int name) {
            for (int i = 0; i < count; i++) {
                Model known = items[i].knows[name];
                if ((set >> i & 1) == 1 && known != null) return known;
            }
            return null;
        }
    }

    /** The latest LOADS, in a ring, so that it never grows. */
    private static final class Notes {
        final int[] ring = new int[NOTE_LIMIT];
        int next;
        int kept;
        int ever;

        void add(int loader, int name) {
            ring[next] = NOTE_FACTOR * loader + name;
            next = (next + 1) % NOTE_LIMIT;
            kept = Math.min(kept + 1, NOTE_LIMIT);
            ever++;
        }

        int latest(int i) {
            if (i < 0 || i >= kept) return NONE;
            return ring[(next + NOTE_LIMIT - 1 - i) % NOTE_LIMIT];
        }
    }

    /** One LOAD, or one DEFINE, that has begun and has not ended. */
    private static final class Step {
        Loader loader;
        int name;
        ClassFile file;
        int stage;
    }

    /**
     * LOADS and DEFINES. One may need another some 170 deep (25 files, each borne by 7 LOADERS), so that the
     * steps stand on a stack of this class's own, not on Java's.
     */
    private static final class Loading {
        /** What stands open is another pair of LOADER and NAME each time, but for a last one that ends in CIRCLE. */
        static final int STEP_LIMIT = LOADER_LIMIT * NAME_LIMIT + 1;
        static final int TURN_LIMIT = 1000000;
        static final int PENDING = NONE;

        static final int ASKED = 0, PARENT_FIRST = 1, PARENT_LAST = 2, ITSELF_FIRST = 3, ITSELF_LAST = 4;
        static final int TO_DEFINE = 5, ABOVE = 6;

        final Loaders loaders;
        final Notes notes = new Notes();
        final Model[] classes = new Model[CLASS_LIMIT];
        int classCount;
        final Step[] steps = new Step[STEP_LIMIT];
        int depth;

        Loading(Loaders loaders) {
            this.loaders = loaders;
        }

        Model classAt(int c) {
            return c >= 0 && c < classCount ? classes[c] : null;
        }

        int loadBy(Loader loader, int name) {
            open(loader, name, null, ASKED);
            return settle();
        }

        int defineBy(Loader loader, ClassFile file) {
            open(loader, file.name, file, TO_DEFINE);
            return settle();
        }

        /** By turns the top step goes on, with the answer of the one that has just ended above it, if one has. */
        int settle() {
            int answer = PENDING;
            for (int turn = 0; turn < TURN_LIMIT && depth > 0; turn++) {
                Step step = steps[depth - 1];
                switch (step.stage) {
                    case ASKED: answer = begin(step); break;
                    case PARENT_FIRST: answer = takeFromFirstParent(step, answer); break;
                    case PARENT_LAST: answer = takeFromParent(step, answer); break;
                    case ITSELF_FIRST: answer = tryItselfFirst(step); break;
                    case ITSELF_LAST: answer = tryItself(step); break;
                    case TO_DEFINE: answer = beginToDefine(step); break;
                    default: answer = takeAbove(step, answer); break;
                }
            }
            return answer;
        }

        /** Steps are kept for the next use, so that many LOADS make few objects. */
        int open(Loader loader, int name, ClassFile file, int stage) {
            if (depth >= STEP_LIMIT) return failed(CIRCLE);
            if (steps[depth] == null) steps[depth] = new Step();
            Step step = steps[depth++];
            step.loader = loader;
            step.name = name;
            step.file = file;
            step.stage = stage;
            return PENDING;
        }

        int end(int answer) {
            depth--;
            return answer;
        }

        int begin(Step step) {
            Loader loader = step.loader;
            notes.add(loader.number, step.name);
            Model known = loader.knows[step.name];
            if (known != null) return end(known.number);
            if (loader.defining[step.name]) return end(failed(CIRCLE));
            if (loader.asksParentFirst(step.name)) return askParent(step, PARENT_FIRST);
            step.stage = ITSELF_FIRST;
            return PENDING;
        }

        int askParent(Step step, int stage) {
            step.stage = stage;
            return open(step.loader.parent, step.name, null, ASKED);
        }

        int takeFromFirstParent(Step step, int got) {
            if (got != failed(ABSENT)) return takeFromParent(step, got);
            step.stage = ITSELF_LAST;
            return PENDING;
        }

        int takeFromParent(Step step, int got) {
            Model model = classAt(got);
            if (model == null) return end(got);
            if (loaders.isBarred(step.loader, step.name, model)) return end(failed(LINKAGE));
            step.loader.knows[step.name] = model;
            return end(got);
        }

        int tryItselfFirst(Step step) {
            boolean hasFile = step.loader.files[step.name] != null;
            if (hasFile || step.loader.isMachine()) return tryItself(step);
            return askParent(step, PARENT_LAST);
        }

        int tryItself(Step step) {
            step.file = step.loader.files[step.name];
            if (step.file == null) return end(failed(ABSENT));
            step.stage = TO_DEFINE;
            return PENDING;
        }

        int beginToDefine(Step step) {
            int failure = failureAtOnce(step.loader, step.file);
            if (failure != 0) return end(failed(failure));
            if (step.name == 0) return finish(step, null);
            step.loader.defining[step.name] = true;
            step.stage = ABOVE;
            return open(step.loader, step.file.above, null, ASKED);
        }

        int failureAtOnce(Loader loader, ClassFile file) {
            if (file.name < MACHINE_NAMES && !loader.isMachine()) return SECURITY;
            if (file.inner != file.name) return NO_DEFINITION;
            if (loader.knows[file.name] != null) return LINKAGE;
            return loader.defining[file.name] ? CIRCLE : 0;
        }

        int takeAbove(Step step, int got) {
            step.loader.defining[step.name] = false;
            if (got == failed(ABSENT)) return end(failed(NO_DEFINITION));
            Model above = classAt(got);
            if (above == null) return end(got);
            if (above.file.isFinal) return end(failed(FINAL));
            return finish(step, above);
        }

        int finish(Step step, Model above) {
            if (loaders.isBarred(step.loader, step.name, null)) return end(failed(LINKAGE));
            if (classCount >= CLASS_LIMIT) return end(failed(ROOM));
            Model made = new Model(classCount, step.loader, step.file, above);
            classes[classCount++] = made;
            step.loader.knows[step.name] = made;
            return end(made.number);
        }
    }
}
