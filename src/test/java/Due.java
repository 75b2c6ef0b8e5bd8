/** Counts and prints the answers that are not the ones that are due (a boolean counts 1 or 0). */
final class Due {
    private static final int MOST_PRINTED = 40;
    private int wrong = 0;
    private int seen = 0;

    void is(String call, long got, long want) {
        seen++;
        if (got != want) {
            wrong++;
            print(call + " answered " + got + ", due is " + want);
        }
    }

    void is(String call, boolean got, boolean want) {
        is(call, got ? 1 : 0, want ? 1 : 0);
    }

    void fail(String text) {
        wrong++;
        print(text);
    }

    int wrongCount() {
        return wrong;
    }

    int seenCount() {
        return seen;
    }

    void end() {
        System.out.println(seen + " answers seen, " + wrong + " wrong");
        if (wrong != 0) {
            System.exit(1);
        }
    }

    private void print(String text) {
        if (wrong <= MOST_PRINTED) {
            System.out.println(text);
        }
    }
}
