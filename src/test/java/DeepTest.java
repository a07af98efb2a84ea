/** The deepest run of LOADS that the limits leave: 25 NAMES in a ring, each LOADER without the one where its PARENT begins. */
public final class DeepTest {
    private static final int NAMES = 25;
    private static final Due due = new Due();

    public static void main(String[] args) {
        LoaderModels x = new LoaderModels();
        for (int i = 0; i < NAMES; i++) {
            due.is("file", 5 + i, x.file(5 + i, 5 + i, 5 + (i + 1) % NAMES, 1, false));
        }
        for (int i = 1; i < 8; i++) due.is("loader", i, x.loader(i - 1));
        for (int loader = 7; loader > 0; loader--) {
            int lacks = NAMES - 8 + loader;
            for (int i = 0; i < NAMES; i++) {
                if (i != lacks) due.is("bear", 1, x.bear(loader, 5 + i));
            }
        }
        due.is("load(7, 5)", -12, x.load(7, 5));
        // Each LOADER goes round 24 NAMES and then asks its PARENT for the 25th; the MACHINE has it not.
        due.is("told(5)", 7 * NAMES + 1, x.told(5));
        due.is("told(2)", 0, x.told(2));
        due.is("noted(0)", 5 + NAMES - 7, x.noted(0));
        due.is("nothing is DEFINING any more", -12, x.load(7, 5));
        due.is("told(5)", 2 * (7 * NAMES + 1), x.told(5));
        due.is("a file for the bottom", 1, x.bear(1, 4));
        x.bear(1, 5 + NAMES - 7);
        due.is("a ring at the bottom", -16, x.load(7, 5));
        due.end();
    }
}
