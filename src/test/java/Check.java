/** Counts the answers that are not as due; a test ends with exit code 1 if there was one. */
final class Check {
    private int asked = 0;
    private int wrong = 0;

    void due(String call, int got, int want) {
        asked++;
        if (got != want) {
            wrong++;
            System.out.println(call + " answered " + got + ", due is " + want);
        }
    }

    /** The answer is due, and so is one more of its refusals in the book (a refusal is -1 to -6). */
    void refused(GrazeBook x, String call, java.util.function.IntSupplier asking, int want) {
        int before = x.count(10 - want);
        int others = refusals(x) - before;
        due(call, asking.getAsInt(), want);
        due(call + ", then count(" + (10 - want) + ")", x.count(10 - want), before + 1);
        due(call + ", then the other refusals", refusals(x) - x.count(10 - want), others);
    }

    static int refusals(GrazeBook x) {
        int sum = 0;
        for (int what = 11; what <= 16; what++) {
            sum += x.count(what);
        }
        return sum;
    }

    void end() {
        System.out.println(asked + " answers, " + wrong + " of them not as due");
        if (wrong != 0) {
            System.exit(1);
        }
    }
}
