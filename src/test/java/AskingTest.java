/** Promises 24, 27 and 28: pieceOf, ownerOf, count (25 and 26 are with rights and herds). */
public final class AskingTest {
    private static final Check CHECK = new Check();

    public static void main(String[] args) {
        pieceOf();
        ownerOf();
        count();
        refusalsChangeNothingElse();
        CHECK.end();
    }

    private static void pieceOf() {
        GrazeBook x = new GrazeBook();
        CHECK.refused(x, "pieceOf(0, 9), no piece", () -> x.pieceOf(0, 9), -1);
        x.piece(50, 70, 60, true);
        x.owner(0);
        x.right(0, 0, 100, 720, 0);
        x.herd(0, 0, 1);
        x.herd(0, 2, 2);
        x.put(0, 0);
        x.put(1, 0);
        x.pass(1);
        int[] want = {9, 70, 60, -1, 42, 2, 42};
        for (int what = 0; what < want.length; what++) {
            CHECK.due("pieceOf(0, " + what + ")", x.pieceOf(0, what), want[what]);
        }
        CHECK.refused(x, "pieceOf(1, 0)", () -> x.pieceOf(1, 0), -1);
        CHECK.refused(x, "pieceOf(-1, 0)", () -> x.pieceOf(-1, 0), -1);
        CHECK.refused(x, "pieceOf(0, 7)", () -> x.pieceOf(0, 7), -2);
        CHECK.refused(x, "pieceOf(0, -1)", () -> x.pieceOf(0, -1), -2);
    }

    private static void ownerOf() {
        GrazeBook x = new GrazeBook();
        CHECK.refused(x, "ownerOf(0, 9), no owner", () -> x.ownerOf(0, 9), -1);
        x.piece(300, 400, 0, true);
        x.piece(300, 400, 0, true);
        x.owner(12);
        x.owner(0);
        x.house(0);
        x.right(0, 0, 100, 720, 0);
        x.right(1, 0, 10, 720, 0);
        x.right(2, 0, 11, 720, 0);
        x.right(3, 0, 12, 720, 0);
        x.right(0, 0, 1000, 0, 0);
        x.lend(0, 1, 40, 720);
        x.herd(0, 0, 1);
        x.herd(0, 2, 2);
        x.herd(0, 2, 3);
        x.herd(1, 1, 1);
        CHECK.due("ownerOf(0, 3)", x.ownerOf(0, 3), 1093);
        x.put(0, 0);
        x.put(1, 1);
        x.pass(1);
        x.drive(0, 1);
        x.cut(0);
        // 171 of hay for 60 gross, 10 tied, 12 of a leaze there, and 40 lent: 114.9 and 56.07.
        int[] want = {12, 114, 42, 93};
        for (int what = 0; what < want.length; what++) {
            CHECK.due("ownerOf(0, " + what + ")", x.ownerOf(0, what), want[what]);
        }
        CHECK.due("ownerOf(1, 1)", x.ownerOf(1, 1), 56);
        CHECK.due("ownerOf(1, 2)", x.ownerOf(1, 2), 0);
        CHECK.due("ownerOf(1, 3)", x.ownerOf(1, 3), 40);
        int[] reeve = {0, 1, 0, 0};
        for (int what = 0; what < reeve.length; what++) {
            CHECK.due("ownerOf(-1, " + what + ")", x.ownerOf(-1, what), reeve[what]);
        }
        CHECK.refused(x, "ownerOf(2, 0)", () -> x.ownerOf(2, 0), -1);
        CHECK.refused(x, "ownerOf(-2, 0)", () -> x.ownerOf(-2, 0), -1);
        CHECK.refused(x, "ownerOf(0, 4)", () -> x.ownerOf(0, 4), -2);
        CHECK.refused(x, "ownerOf(0, -1)", () -> x.ownerOf(0, -1), -2);
        CHECK.refused(x, "ownerOf(-1, 4)", () -> x.ownerOf(-1, 4), -2);
    }

    private static void count() {
        GrazeBook x = new GrazeBook();
        x.piece(10, 400, 0, true);
        x.piece(20, 400, 0, true);
        x.owner(12);
        x.owner(0);
        x.owner(0);
        x.house(0);
        x.house(0);
        x.house(0);
        x.house(0);
        x.right(0, 0, 30, 5, 0);
        x.right(0, 0, 30, 6, 0);
        x.right(0, 0, 30, 6, 0);
        x.right(0, 1, 30, 720, 0);
        x.right(2, 1, 30, 720, 0);
        x.lend(3, 2, 10, 720);
        x.herd(0, 0, 1);
        x.herd(0, 2, 1);
        x.put(0, 0);
        x.put(1, 1);
        x.pass(6);
        // Piece 0: 11, then 1 each day are eaten; piece 1: 21, 16, 11, 6, 1 and 1.
        int[] want = {6, 2, 3, 4, 5, 2, 0, 180 - 16 + 36 - 26, 16 + 26, 0, -9};
        for (int what = 0; what < want.length; what++) {
            CHECK.due("count(" + what + ")", x.count(what), want[what]);
        }
        x.owner(-1);
        x.pass(94);
        CHECK.due("count(9)", x.count(9), 3);
        CHECK.due("count(4)", x.count(4), 0);
        CHECK.due("count(-1)", x.count(-1), -9);
        CHECK.due("count(17)", x.count(17), -9);
        CHECK.due("count(most)", x.count(Integer.MAX_VALUE), -9);
        CHECK.due("count(least)", x.count(Integer.MIN_VALUE), -9);
        CHECK.due("count(14)", x.count(14), 1);
        CHECK.due("refusals of answers -9", Check.refusals(x), 1);
    }

    private static void refusalsChangeNothingElse() {
        GrazeBook x = new GrazeBook();
        x.house(0);
        x.rate(10, 0, 0);
        x.cut(-1);
        x.pass(0);
        x.owner(0);
        x.herd(0, 0, 1);
        x.piece(5, 5, 5, true);
        x.rest(0, 0);
        x.put(0, 0);
        x.rest(0, 0);
        x.pass(1);
        x.put(0, 0);
        x.owner(100001);
        int[] want = {2, 1, 1, 1, 1, 1};
        for (int i = 0; i < want.length; i++) {
            CHECK.due("count(" + (11 + i) + ")", x.count(11 + i), want[i]);
        }
        CHECK.due("count(2)", x.count(2), 1);
        CHECK.due("pieceOf(0, 5)", x.pieceOf(0, 5), 0);
    }
}
