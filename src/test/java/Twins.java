import java.util.List;
import java.util.function.Function;
import java.util.function.Supplier;
import java.util.function.ToIntFunction;

/**
 * Asks one call of a book made by a recipe. Of two books made alike one hears a refused call and the
 * other does not; then both are asked for all that can be asked: only the count of that refusal may
 * differ. Each asking has books of its own, so that none is used for more than 512 calls.
 */
final class Twins {
    private static final int MOST_CALLS_BEHIND = 395;

    private static final List<Function<GrazeBook, int[]>> ASKINGS = List.of(
        Twins::pieces, x -> rights(x, 0), x -> rights(x, 30), Twins::herdsAndOwners, Twins::rates,
        Twins::nextNumbers, Twins::housesAndOrder, Twins::whatComes);

    private final Check check;
    private final Supplier<GrazeBook> recipe;

    Twins(Check check, Supplier<GrazeBook> recipe) {
        this.check = check;
        this.recipe = recipe;
    }

    /** The call is no refusal, though its answer may be a number below 0. */
    void taken(String call, ToIntFunction<GrazeBook> asking, int want) {
        GrazeBook x = recipe.get();
        int before = Check.refusals(x);
        check.due(call, asking.applyAsInt(x), want);
        check.due(call + ", then all refusals", Check.refusals(x), before);
    }

    void refused(String call, ToIntFunction<GrazeBook> asking, int want) {
        GrazeBook heard = recipe.get();
        GrazeBook spared = recipe.get();
        check.due(call, asking.applyAsInt(heard), want);
        for (int what = 11; what <= 16; what++) {
            int more = what == 10 - want ? 1 : 0;
            check.due(call + ", then count(" + what + ")", heard.count(what), spared.count(what) + more);
        }
        for (int k = 0; k < ASKINGS.size(); k++) {
            GrazeBook x = recipe.get();
            asking.applyAsInt(x);
            same(call + ", then asking " + k, ASKINGS.get(k).apply(x), ASKINGS.get(k).apply(recipe.get()));
        }
    }

    private void same(String call, int[] got, int[] want) {
        check.due(call + ", how many answers", got.length, want.length);
        for (int i = 0; i < want.length && i < got.length; i++) {
            if (got[i] != want[i]) {
                check.due(call + ", answer " + i, got[i], want[i]);
                return;
            }
        }
    }

    /** Answers in a row. */
    private static final class Row {
        private final int[] answers = new int[MOST_CALLS_BEHIND];
        private int size = 0;

        void add(int answer) {
            answers[size] = answer;
            size++;
        }

        int[] all() {
            return java.util.Arrays.copyOf(answers, size);
        }
    }

    private static int[] pieces(GrazeBook x) {
        Row row = new Row();
        for (int p = 0; p < 6; p++) {
            for (int what = 0; what <= 6; what++) {
                row.add(x.pieceOf(p, what));
            }
            for (int i = 0; i < 20; i++) {
                row.add(x.over(p, i));
            }
        }
        for (int step = 0; step < 4; step++) {
            row.add(x.planned(step, 0));
            row.add(x.planned(step, 1));
        }
        for (int what = 0; what <= 10; what++) {
            row.add(x.count(what));
        }
        return row.all();
    }

    private static int[] rights(GrazeBook x, int from) {
        Row row = new Row();
        for (int r = from; r < from + 30; r++) {
            for (int what = 0; what <= 8; what++) {
                row.add(x.rightOf(r, what));
            }
        }
        return row.all();
    }

    private static int[] herdsAndOwners(GrazeBook x) {
        Row row = new Row();
        for (int h = 0; h < 20; h++) {
            for (int what = 0; what <= 6; what++) {
                row.add(x.herdOf(h, what));
            }
        }
        for (int o = -1; o < 10; o++) {
            for (int what = 0; what <= 3; what++) {
                row.add(x.ownerOf(o, what));
            }
            row.add(x.covered(o));
            row.add(x.lacks(o));
        }
        return row.all();
    }

    private static int[] rates(GrazeBook x) {
        Row row = new Row();
        for (int rain = 0; rain <= 9; rain++) {
            for (int warmth = 0; warmth <= 9; warmth++) {
                row.add(x.rate(rain, warmth, 0));
            }
        }
        return row.all();
    }

    private static int[] nextNumbers(GrazeBook x) {
        Row row = new Row();
        row.add(x.piece(0, 1, 0, true));
        row.add(x.owner(0));
        row.add(x.house(0));
        row.add(x.right(0, 0, 1, 720, 0));
        row.add(x.herd(0, 2, 1));
        return row.all();
    }

    /** Whose the houses are is seen by the rights of a house; who went last onto a piece, by driving all there. */
    private static int[] housesAndOrder(GrazeBook x) {
        Row row = new Row();
        for (int h = 0; h < 10; h++) {
            int right = x.right(1, h, 1, 720, 0);
            row.add(right);
            row.add(x.rightOf(right, 1));
        }
        for (int h = 0; h < 20; h++) {
            row.add(x.drive(h, 1));
        }
        for (int i = 0; i < 20; i++) {
            row.add(x.over(1, i));
        }
        return row.all();
    }

    /** The weather to come, and what a stay in the pound and rights without use come to, are seen as days pass. */
    private static int[] whatComes(GrazeBook x) {
        Row row = new Row();
        for (int n = 1; n <= 512; n *= 2) {
            row.add(x.pass(n));
            row.add(x.count(4));
            row.add(x.count(6));
            row.add(x.count(7));
            row.add(x.count(8));
            row.add(x.count(9));
        }
        row.add(x.pass(720 - x.count(0)));
        row.add(x.count(6));
        for (int h = 0; h < 20; h++) {
            row.add(x.herdOf(h, 4));
            row.add(x.herdOf(h, 5));
        }
        for (int r = 0; r < 60; r++) {
            row.add(x.rightOf(r, 8));
        }
        for (int o = -1; o < 10; o++) {
            row.add(x.ownerOf(o, 0));
        }
        return row.all();
    }
}
