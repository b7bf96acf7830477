/** Promises 18 to 21: rest, cut, pound, free; and how the pound sells. */
public final class HayAndPoundTest {
    private static final Check CHECK = new Check();

    public static void main(String[] args) {
        rest();
        cut();
        cutLittle();
        hayShares();
        hayOfLentParts();
        hayOfMuch();
        pound();
        free();
        soldFromPound();
        CHECK.end();
    }

    private static void rest() {
        GrazeBook x = new GrazeBook();
        CHECK.refused(x, "rest(0, 0), no piece", () -> x.rest(0, 0), -1);
        x.piece(0, 100, 0, true);
        x.owner(0);
        x.right(0, 0, 100, 720, 0);
        x.herd(0, 0, 1);
        x.put(0, 0);
        x.pass(5);
        CHECK.refused(x, "rest(1, 4)", () -> x.rest(1, 4), -1);
        CHECK.refused(x, "rest(-1, 4)", () -> x.rest(-1, 4), -1);
        CHECK.refused(x, "rest(0, 4)", () -> x.rest(0, 4), -4);
        CHECK.refused(x, "rest(0, 741)", () -> x.rest(0, 741), -6);
        int refusals = Check.refusals(x);
        CHECK.due("rest(0, 740)", x.rest(0, 740), -1);
        CHECK.due("what it was is no refusal", Check.refusals(x), refusals);
        CHECK.due("rest(0, 5), shorter", x.rest(0, 5), 740);
        CHECK.due("pieceOf(0, 3)", x.pieceOf(0, 3), 5);
        CHECK.due("herds that are there stay", x.herdOf(0, 3), 0);
        CHECK.due("and eat", x.pass(1), 29);
    }

    private static void cut() {
        GrazeBook x = new GrazeBook();
        CHECK.refused(x, "cut(0), no piece", () -> x.cut(0), -1);
        x.piece(101, 2000, 0, true);
        x.piece(500, 2000, 0, true);
        x.owner(0);
        x.right(0, 0, 100, 720, 0);
        x.herd(0, 0, 1);
        x.put(0, 1);
        x.pass(3);
        CHECK.refused(x, "cut(2)", () -> x.cut(2), -1);
        CHECK.refused(x, "cut(-1)", () -> x.cut(-1), -1);
        CHECK.refused(x, "cut(1), a herd is there", () -> x.cut(1), -3);
        x.rest(0, 3);
        CHECK.refused(x, "cut(0), it rests", () -> x.cut(0), -3);
        x.pass(1);
        CHECK.due("cut(0)", x.cut(0), 5);
        CHECK.due("pieceOf(0, 0)", x.pieceOf(0, 0), 100);
        CHECK.due("pieceOf(0, 3)", x.pieceOf(0, 3), 24);
        CHECK.due("pieceOf(0, 6), hay is not eaten", x.pieceOf(0, 6), 0);
        CHECK.due("ownerOf(0, 1)", x.ownerOf(0, 1), 5);
        x.pass(20);
        CHECK.refused(x, "cut(0) on the last day of rest", () -> x.cut(0), -3);
        x.pass(1);
        CHECK.due("cut(0) again", x.cut(0), 21);
        CHECK.due("ownerOf(0, 1), summed up", x.ownerOf(0, 1), 26);
        x.drive(0, -1);
        CHECK.due("cut(1), the herd is off", x.cut(1), 0);
    }

    private static void cutLittle() {
        GrazeBook x = new GrazeBook();
        x.piece(100, 2000, 0, true);
        x.piece(99, 2000, 0, true);
        CHECK.due("cut(0) of 100", x.cut(0), 0);
        CHECK.due("cut(1) of 99", x.cut(1), 0);
        CHECK.due("pieceOf(0, 0)", x.pieceOf(0, 0), 100);
        CHECK.due("pieceOf(1, 0)", x.pieceOf(1, 0), 99);
        CHECK.due("pieceOf(0, 3)", x.pieceOf(0, 3), 20);
        CHECK.due("pieceOf(1, 3)", x.pieceOf(1, 3), 20);
    }

    private static void hayShares() {
        GrazeBook x = new GrazeBook();
        x.piece(201, 1000, 0, true);
        x.piece(201, 1000, 0, true);
        x.piece(201, 1000, 0, true);
        for (int o = 0; o < 4; o++) {
            x.owner(0);
        }
        x.house(2);
        CHECK.due("cut(2), without rights", x.cut(2), 101);
        CHECK.due("ownerOf(-1, 1)", x.ownerOf(-1, 1), 101);
        x.right(0, 0, 30, 720, 0);
        x.right(1, 0, 20, 720, 0);
        x.right(2, 3, 5000, 720, 0);
        x.right(3, 1, 10, 720, 0);
        x.right(3, 1, 60, 720, 1);
        x.right(3, 3, 7000, 720, 2);
        CHECK.due("cut(0)", x.cut(0), 101);
        // 30, 10, 20 of 60: 50.5, 16.83, 33.67.
        CHECK.due("ownerOf(0, 1)", x.ownerOf(0, 1), 50);
        CHECK.due("ownerOf(1, 1)", x.ownerOf(1, 1), 16);
        CHECK.due("ownerOf(2, 1)", x.ownerOf(2, 1), 33);
        CHECK.due("ownerOf(3, 1)", x.ownerOf(3, 1), 0);
        CHECK.due("ownerOf(-1, 1)", x.ownerOf(-1, 1), 101 + 2);
        CHECK.due("cut(1)", x.cut(1), 101);
        // 30, 60, 20 of 110: 27.5, 55.09, 18.36.
        CHECK.due("ownerOf(0, 1)", x.ownerOf(0, 1), 77);
        CHECK.due("ownerOf(1, 1)", x.ownerOf(1, 1), 71);
        CHECK.due("ownerOf(2, 1)", x.ownerOf(2, 1), 51);
        CHECK.due("ownerOf(-1, 1)", x.ownerOf(-1, 1), 101 + 2 + 1);
    }

    private static void hayOfLentParts() {
        GrazeBook x = new GrazeBook();
        x.piece(1100, 2000, 0, true);
        x.owner(0);
        x.owner(0);
        x.right(0, 0, 50, 3, 0);
        x.right(0, 0, 50, 720, 0);
        x.lend(1, 1, 20, 720);
        x.pass(4);
        CHECK.due("cut(0)", x.cut(0), 1004);
        // 30 and 20 of 50: the first right is over.
        CHECK.due("ownerOf(0, 1)", x.ownerOf(0, 1), 602);
        CHECK.due("ownerOf(1, 1)", x.ownerOf(1, 1), 401);
        CHECK.due("ownerOf(-1, 1)", x.ownerOf(-1, 1), 1);
    }

    private static void hayOfMuch() {
        GrazeBook x = new GrazeBook();
        x.piece(100000, 100000, 0, true);
        x.owner(0);
        x.owner(0);
        for (int r = 0; r < 60; r++) {
            x.right(0, r < 59 ? 0 : 1, 10000, 720, 0);
        }
        CHECK.due("cut(0)", x.cut(0), 99900);
        CHECK.due("ownerOf(0, 1)", x.ownerOf(0, 1), 98235);
        CHECK.due("ownerOf(1, 1)", x.ownerOf(1, 1), 1665);
        CHECK.due("ownerOf(-1, 1)", x.ownerOf(-1, 1), 0);
    }

    /** Two herds of an owner on a piece, no more covered from day 3 on. */
    private static GrazeBook strays(int coins, int sort, int n) {
        GrazeBook x = new GrazeBook();
        x.piece(1000, 1000, 0, true);
        x.owner(coins);
        x.right(0, 0, 10000, 2, 0);
        x.herd(0, sort, n);
        x.herd(0, 2, 1);
        x.put(0, 0);
        x.put(1, 0);
        x.pass(3);
        return x;
    }

    private static void pound() {
        GrazeBook x = strays(0, 0, 2);
        x.herd(0, 2, 1);
        CHECK.refused(x, "pound(-1)", () -> x.pound(-1), -1);
        CHECK.refused(x, "pound(3)", () -> x.pound(3), -1);
        CHECK.refused(x, "pound(2), it is off", () -> x.pound(2), -3);
        CHECK.due("pound(0)", x.pound(0), 1);
        CHECK.due("herdOf(0, 3)", x.herdOf(0, 3), -1);
        CHECK.due("herdOf(0, 5)", x.herdOf(0, 5), 1);
        CHECK.due("herdOf(0, 6), the first day counts", x.herdOf(0, 6), 2);
        CHECK.due("lacks(0)", x.lacks(0), 6);
        CHECK.due("pieceOf(0, 5)", x.pieceOf(0, 5), 1);
        CHECK.due("count(5), it is not lost", x.count(5), 3);
        CHECK.refused(x, "pound(0), it is there", () -> x.pound(0), -3);
        CHECK.refused(x, "put(0, 0), it is in the pound", () -> x.put(0, 0), -3);
        CHECK.refused(x, "plan with it", () -> x.plan(0, -1, 1, 1), -3);
        x.right(0, 0, 6, 720, 0);
        CHECK.refused(x, "pound(1), its owner is covered", () -> x.pound(1), -3);
        x.pass(1);
        CHECK.due("herdOf(0, 6)", x.herdOf(0, 6), 4);
    }

    private static void free() {
        GrazeBook x = strays(9, 0, 2);
        CHECK.refused(x, "free(-1)", () -> x.free(-1), -1);
        CHECK.refused(x, "free(2)", () -> x.free(2), -1);
        CHECK.refused(x, "free(0), it is out", () -> x.free(0), -3);
        x.pound(0);
        x.pound(1);
        x.pass(4);
        CHECK.refused(x, "free(0) for 10 of 9", () -> x.free(0), -5);
        CHECK.due("herdOf(0, 5)", x.herdOf(0, 5), 1);
        CHECK.due("free(1)", x.free(1), 5);
        CHECK.due("ownerOf(0, 0)", x.ownerOf(0, 0), 4);
        CHECK.due("ownerOf(-1, 0)", x.ownerOf(-1, 0), 5);
        CHECK.due("herdOf(1, 5)", x.herdOf(1, 5), 0);
        CHECK.due("herdOf(1, 6)", x.herdOf(1, 6), 0);
        CHECK.due("herdOf(1, 3)", x.herdOf(1, 3), -1);
        CHECK.refused(x, "free(1) again", () -> x.free(1), -3);
        x.right(0, 0, 6, 10, 0);
        CHECK.due("put(1, 0)", x.put(1, 0), 1);
        x.pass(4);
        x.pound(1);
        CHECK.due("herdOf(1, 6), from anew", x.herdOf(1, 6), 1);
        GrazeBook just = strays(10, 0, 2);
        just.pound(0);
        just.pass(4);
        CHECK.due("free(0) for all coins", just.free(0), 10);
        CHECK.due("ownerOf(0, 0)", just.ownerOf(0, 0), 0);
    }

    private static void soldFromPound() {
        GrazeBook x = strays(100000, 1, 4);
        x.pound(0);
        x.pass(29);
        CHECK.due("herdOf(0, 5), the 30th day", x.herdOf(0, 5), 1);
        CHECK.due("herdOf(0, 6)", x.herdOf(0, 6), 120);
        x.pass(1);
        CHECK.due("herdOf(0, 5), the 31st day", x.herdOf(0, 5), 2);
        CHECK.due("herdOf(0, 6)", x.herdOf(0, 6), 0);
        CHECK.due("herdOf(0, 3)", x.herdOf(0, 3), -1);
        // Worth 180, fee 124.
        CHECK.due("ownerOf(0, 0)", x.ownerOf(0, 0), 100056);
        CHECK.due("ownerOf(-1, 0)", x.ownerOf(-1, 0), 124);
        CHECK.due("count(5)", x.count(5), 1);
        CHECK.refused(x, "put(0, 0), it is lost", () -> x.put(0, 0), -3);
        CHECK.refused(x, "free(0), it is lost", () -> x.free(0), -3);
        CHECK.refused(x, "pound(0), it is lost", () -> x.pound(0), -3);
        CHECK.refused(x, "plan(0, ..), it is lost", () -> x.plan(0, -1, 1, 1), -3);
        CHECK.refused(x, "plan(1, 0, ..), it is lost", () -> x.plan(1, 0, 1, 1), -3);
        x.pass(1);
        CHECK.due("ownerOf(0, 0), sold once", x.ownerOf(0, 0), 100056);
        GrazeBook cows = strays(7, 0, 4);
        cows.pound(0);
        cows.pass(30);
        // Worth 120, fee 124.
        CHECK.due("ownerOf(0, 0)", cows.ownerOf(0, 0), 7);
        CHECK.due("ownerOf(-1, 0)", cows.ownerOf(-1, 0), 120);
    }
}
