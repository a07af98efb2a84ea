import java.lang.reflect.Constructor;
import java.lang.reflect.Field;
import java.lang.reflect.Method;
import java.lang.reflect.Modifier;
import java.util.Arrays;
import java.util.TreeSet;

/** The face is the document's, and nothing else of the class can be seen (LANGUAGE.md, rules 1 and 5). */
public final class FaceTest {
    private static final String[] METHODS = {
        "int loader(int)", "int bound(int,int)", "int file(int,int,int,int,boolean)", "int method(int,int,int,int,int)",
        "int bear(int,int)", "int load(int,int)", "int define(int,int)", "int known(int,int)", "int agree(int,int,int)",
        "int apart(int,int)", "int start(int)", "long value(int)", "int make(int)", "int cast(int,int)", "int row(int,int)",
        "int put(int,int,int)", "int get(int,int)", "int castRow(int,int)", "long call(int,int,long)", "int about(int,int)",
        "int noted(int)", "int told(int)"};
    private static final String[] CONSTANTS = {
        "int NONE", "int UNKNOWN", "int OUTSIDE", "int STATE", "int FULL", "long REFUSED"};

    public static void main(String[] args) {
        Due due = new Due();
        Class<?> face = LoaderModels.class;
        TreeSet<String> publicNames = new TreeSet<>();
        TreeSet<String> methods = new TreeSet<>();
        for (Method m : face.getDeclaredMethods()) {
            if (Modifier.isPrivate(m.getModifiers())) continue;
            publicNames.add(m.getName());
            StringBuilder text = new StringBuilder(m.getReturnType() + " " + m.getName() + "(");
            for (Class<?> p : m.getParameterTypes()) text.append(text.charAt(text.length() - 1) == '(' ? "" : ",").append(p);
            methods.add(text.append(")").toString());
            due.is(m + " is public and no static", Modifier.PUBLIC, m.getModifiers());
        }
        same(due, "methods", METHODS, methods);
        for (Method m : face.getDeclaredMethods()) {
            boolean hides = Modifier.isPrivate(m.getModifiers()) && publicNames.contains(m.getName());
            due.is(m + " bears a public name", 0, hides ? 1 : 0);
        }
        TreeSet<String> constants = new TreeSet<>();
        for (Field f : face.getDeclaredFields()) {
            if (Modifier.isStatic(f.getModifiers())) due.is(f + " is final", 1, Modifier.isFinal(f.getModifiers()) ? 1 : 0);
            if (!Modifier.isPrivate(f.getModifiers())) constants.add(f.getType() + " " + f.getName());
        }
        same(due, "constants", CONSTANTS, constants);
        for (Constructor<?> c : face.getDeclaredConstructors()) due.is(c + " takes nothing", 0, c.getParameterCount());
        due.is("constructors", 1, face.getConstructors().length);
        due.is("public and final", Modifier.PUBLIC | Modifier.FINAL, face.getModifiers());
        for (Class<?> c : face.getDeclaredClasses()) due.is(c + " is static", 1, Modifier.isStatic(c.getModifiers()) ? 1 : 0);
        due.is("NONE", -1, LoaderModels.NONE);
        due.is("UNKNOWN", -2, LoaderModels.UNKNOWN);
        due.is("OUTSIDE", -3, LoaderModels.OUTSIDE);
        due.is("STATE", -4, LoaderModels.STATE);
        due.is("FULL", -5, LoaderModels.FULL);
        due.is("REFUSED", Long.MIN_VALUE, LoaderModels.REFUSED);
        due.end();
    }

    private static void same(Due due, String what, String[] want, TreeSet<String> got) {
        boolean equal = new TreeSet<>(Arrays.asList(want)).equals(got);
        if (!equal) System.out.println(what + " are " + got);
        due.is(what + " are the document's", 1, equal ? 1 : 0);
    }
}
