/** Counts the answers that are not as due and tells each of them. */
final class Due {
    static final long REFUSED = Long.MIN_VALUE;
    private int count = 0;
    private int wrong = 0;

    void is(String call, long want, long got) {
        count++;
        if (got == want) return;
        wrong++;
        System.out.println(call + " answered " + got + ", due is " + want);
    }

    /** Numbers that are not 0 to count - 1: just beside these, and the farthest. */
    static int[] notBelow(int count) {
        return new int[] {-1, count, -2, count + 1, Integer.MIN_VALUE, Integer.MAX_VALUE};
    }

    void end() {
        System.out.println(count + " answers, " + wrong + " not as due");
        if (wrong != 0) System.exit(1);
    }
}
