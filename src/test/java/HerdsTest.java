/** Promises 11 to 16 and 26: herd, put, drive, covered, lacks, over, herdOf. */
public final class HerdsTest {
    private static final Check CHECK = new Check();

    public static void main(String[] args) {
        herd();
        put();
        putAsksRights();
        drive();
        covered();
        coverByKinds();
        coverAcrossPieces();
        over();
        herdOf();
        CHECK.end();
    }

    /** Three pieces, two owners. */
    private static GrazeBook common() {
        GrazeBook x = new GrazeBook();
        x.piece(1000, 1000, 100, true);
        x.piece(1000, 1000, 100, true);
        x.piece(1000, 1000, 0, true);
        x.owner(0);
        x.owner(0);
        return x;
    }

    private static void herd() {
        GrazeBook x = common();
        CHECK.refused(x, "herd(-1, 5, 0)", () -> x.herd(-1, 5, 0), -1);
        CHECK.refused(x, "herd(2, 0, 1)", () -> x.herd(2, 0, 1), -1);
        CHECK.refused(x, "herd(0, -1, 0)", () -> x.herd(0, -1, 0), -2);
        CHECK.refused(x, "herd(0, 3, 101)", () -> x.herd(0, 3, 101), -2);
        CHECK.refused(x, "herd(0, 0, 0)", () -> x.herd(0, 0, 0), -4);
        CHECK.refused(x, "herd(0, 0, 101)", () -> x.herd(0, 0, 101), -6);
        CHECK.due("herd(1, 2, 100)", x.herd(1, 2, 100), 0);
        CHECK.due("herdOf(0, 3), off", x.herdOf(0, 3), -1);
        for (int h = 1; h < 20; h++) {
            CHECK.due("herd " + h, x.herd(h % 2, h % 3, 1), h);
        }
        CHECK.refused(x, "herd 20", () -> x.herd(0, 0, 1), -6);
        CHECK.refused(x, "herd 20, of none", () -> x.herd(0, 0, 0), -4);
        CHECK.due("count(5)", x.count(5), 20);
    }

    private static void put() {
        GrazeBook x = common();
        x.right(0, 0, 5000, 720, 0);
        x.herd(0, 0, 2);
        x.herd(0, 1, 1);
        CHECK.refused(x, "put(-1, 0)", () -> x.put(-1, 0), -1);
        CHECK.refused(x, "put(2, 0)", () -> x.put(2, 0), -1);
        CHECK.refused(x, "put(0, -1)", () -> x.put(0, -1), -1);
        CHECK.refused(x, "put(0, 3)", () -> x.put(0, 3), -1);
        CHECK.due("put(0, 0)", x.put(0, 0), 1);
        CHECK.due("herdOf(0, 3)", x.herdOf(0, 3), 0);
        CHECK.due("pieceOf(0, 4)", x.pieceOf(0, 4), 60);
        CHECK.due("pieceOf(0, 5)", x.pieceOf(0, 5), 1);
        CHECK.refused(x, "put what is out, elsewhere", () -> x.put(0, 1), -3);
        CHECK.refused(x, "put what is out, there", () -> x.put(0, 0), -3);
        x.rest(1, 2);
        CHECK.refused(x, "put where it rests", () -> x.put(1, 1), -3);
        x.pass(2);
        CHECK.refused(x, "put on the last day of rest", () -> x.put(1, 1), -3);
        x.pass(1);
        CHECK.due("put behind the rest", x.put(1, 1), 1);
    }

    private static void putAsksRights() {
        GrazeBook x = common();
        x.right(0, 0, 80, 0, 0);
        x.right(0, 0, 30, 720, 0);
        x.herd(0, 0, 2);
        x.herd(0, 1, 1);
        x.herd(0, 2, 8);
        x.herd(1, 2, 1);
        CHECK.due("put(0, 0)", x.put(0, 0), 1);
        CHECK.due("put(1, 1)", x.put(1, 1), 1);
        CHECK.refused(x, "put(2, 2)", () -> x.put(2, 2), -5);
        CHECK.due("herdOf(2, 3)", x.herdOf(2, 3), -1);
        CHECK.due("ownerOf(0, 2)", x.ownerOf(0, 2), 105);
        CHECK.refused(x, "put(3, 0), no right at all", () -> x.put(3, 0), -5);
        x.rest(2, 5);
        CHECK.refused(x, "put(2, 2), it rests, too", () -> x.put(2, 2), -3);
        x.drive(1, -1);
        CHECK.due("put(2, 0)", x.put(2, 0), 1);
        x.drive(0, -1);
        x.drive(2, -1);
        x.pass(1);
        CHECK.refused(x, "put(0, 0), a right is over", () -> x.put(0, 0), -5);
    }

    private static void drive() {
        GrazeBook x = common();
        x.right(0, 0, 60, 720, 0);
        x.herd(0, 0, 1);
        x.herd(0, 0, 1);
        CHECK.refused(x, "drive(-1, 0)", () -> x.drive(-1, 0), -1);
        CHECK.refused(x, "drive(2, 0)", () -> x.drive(2, 0), -1);
        CHECK.refused(x, "drive(0, 3)", () -> x.drive(0, 3), -1);
        CHECK.refused(x, "drive(0, -2)", () -> x.drive(0, -2), -1);
        CHECK.refused(x, "drive(0, 0), it is off", () -> x.drive(0, 0), -3);
        CHECK.refused(x, "drive(0, -1), it is off", () -> x.drive(0, -1), -3);
        x.put(0, 1);
        CHECK.refused(x, "drive(0, 1), it is there", () -> x.drive(0, 1), -3);
        x.rest(2, 0);
        CHECK.refused(x, "drive(0, 2), it rests", () -> x.drive(0, 2), -3);
        CHECK.due("drive(0, 0)", x.drive(0, 0), 1);
        CHECK.due("herdOf(0, 3)", x.herdOf(0, 3), 0);
        CHECK.due("drive(0, -1)", x.drive(0, -1), 0);
        CHECK.due("herdOf(0, 3)", x.herdOf(0, 3), -1);
        x.pass(1);
        x.put(0, 0);
        x.rest(0, 9);
        CHECK.due("drive(0, 2) from where it rests", x.drive(0, 2), 0);
        x.sell(0, 1);
        CHECK.due("drive(0, 1), without rights", x.drive(0, 1), 2);
        CHECK.due("covered(0)", x.covered(0), 0);
        x.pound(0);
        CHECK.refused(x, "drive(0, 1), it is in the pound", () -> x.drive(0, 1), -3);
        CHECK.refused(x, "drive(0, -1), it is in the pound", () -> x.drive(0, -1), -3);
        x.pass(30);
        CHECK.refused(x, "drive(0, 1), it is lost", () -> x.drive(0, 1), -3);
    }

    private static void covered() {
        GrazeBook x = common();
        CHECK.refused(x, "covered(-1)", () -> x.covered(-1), -1);
        CHECK.refused(x, "covered(2)", () -> x.covered(2), -1);
        CHECK.refused(x, "lacks(-1)", () -> x.lacks(-1), -1);
        CHECK.refused(x, "lacks(2)", () -> x.lacks(2), -1);
        CHECK.due("covered(0), nothing out", x.covered(0), 1);
        CHECK.due("lacks(0), nothing out", x.lacks(0), 0);
        x.right(0, 0, 100, 3, 0);
        x.herd(0, 0, 3);
        CHECK.due("covered(0), it is off", x.covered(0), 1);
        x.put(0, 0);
        CHECK.due("lacks(0)", x.lacks(0), 0);
        x.lend(0, 1, 10, 2);
        CHECK.due("covered(0), just so", x.covered(0), 1);
        x.lend(0, 1, 1, 1);
        CHECK.due("covered(0), one lent too many", x.covered(0), 0);
        CHECK.due("lacks(0)", x.lacks(0), 1);
        x.pass(2);
        CHECK.due("covered(0), it is back", x.covered(0), 1);
        x.pass(1);
        CHECK.due("covered(0), last day", x.covered(0), 1);
        x.pass(1);
        CHECK.due("covered(0), the right is over", x.covered(0), 0);
        CHECK.due("lacks(0)", x.lacks(0), 90);
        CHECK.due("covered(1)", x.covered(1), 1);
    }

    private static void coverByKinds() {
        GrazeBook x = common();
        x.house(0);
        x.right(2, 0, 50, 720, 0);
        x.herd(0, 0, 1);
        x.herd(0, 2, 10);
        CHECK.refused(x, "a cow under a walk", () -> x.put(0, 0), -5);
        CHECK.refused(x, "60 of sheep under a walk of 50", () -> x.put(1, 0), -5);
        x.right(3, 0, 10, 720, 0);
        CHECK.refused(x, "sheep elsewhere than the leaze", () -> x.put(1, 1), -5);
        CHECK.due("sheep under a walk and a leaze", x.put(1, 0), 1);
        CHECK.refused(x, "a cow as well", () -> x.put(0, 0), -5);
        x.right(3, 0, 20, 720, 0);
        CHECK.refused(x, "the leazes want 10 more", () -> x.put(0, 0), -5);
        x.right(1, 0, 10, 720, 0);
        CHECK.due("leazes, a walk and a tied right", x.put(0, 0), 1);
        CHECK.due("covered(0)", x.covered(0), 1);
        x.drive(0, 1);
        CHECK.due("lacks(0), the cow is off the leazes", x.lacks(0), 20);
        x.drive(1, 1);
        CHECK.due("lacks(0), all are", x.lacks(0), 30);
    }

    private static void coverAcrossPieces() {
        GrazeBook x = common();
        x.right(3, 0, 40, 720, 0);
        x.right(3, 0, 100, 720, 1);
        x.right(2, 0, 12, 720, 0);
        x.right(0, 0, 5000, 1, 0);
        x.herd(0, 0, 1);
        x.herd(0, 2, 5);
        x.herd(0, 1, 1);
        x.herd(0, 2, 3);
        x.put(0, 0);
        x.put(1, 0);
        x.put(2, 1);
        x.put(3, 2);
        x.pass(2);
        // On 0: the cow takes 30 of 40, sheep 10, and 20 are left; on 2: 18; the walk takes 12 of 38.
        CHECK.due("lacks(0)", x.lacks(0), 26);
        x.drive(3, 1);
        CHECK.due("lacks(0)", x.lacks(0), 8);
        x.drive(1, 1);
        CHECK.due("lacks(0)", x.lacks(0), 0);
        CHECK.due("covered(0)", x.covered(0), 1);
        x.drive(2, 0);
        CHECK.due("lacks(0), 75 on a leaze of 40", x.lacks(0), 35);
    }

    private static void over() {
        GrazeBook x = common();
        x.right(0, 0, 5000, 720, 0);
        x.right(0, 1, 5000, 720, 0);
        x.herd(0, 0, 1);
        x.herd(1, 1, 1);
        x.herd(0, 2, 10);
        x.herd(1, 2, 1);
        CHECK.refused(x, "over(-1, 0)", () -> x.over(-1, 0), -1);
        CHECK.refused(x, "over(3, 0)", () -> x.over(3, 0), -1);
        CHECK.due("over(0, 0), nothing there", x.over(0, 0), -9);
        x.put(2, 0);
        x.put(0, 0);
        CHECK.due("over(0, 0), 90 of 100", x.over(0, 0), -9);
        x.put(3, 0);
        x.put(1, 0);
        // 60, 30, 6, 45: without the last 96 are left.
        CHECK.due("over(0, 0)", x.over(0, 0), 1);
        CHECK.due("over(0, 1)", x.over(0, 1), -9);
        CHECK.due("over(0, -1)", x.over(0, -1), -9);
        x.drive(2, 1);
        CHECK.due("over(0, 0), 81 of 100", x.over(0, 0), -9);
        x.drive(2, 0);
        // 30, 6, 45, 60: 81 without the one that came back.
        CHECK.due("over(0, 0), order of now", x.over(0, 0), 2);
        CHECK.due("over(0, 1)", x.over(0, 1), -9);
        x.drive(0, -1);
        x.put(0, 0);
        // 6, 45, 60, 30: 111 without 0, 51 without 2.
        CHECK.due("over(0, 0)", x.over(0, 0), 0);
        CHECK.due("over(0, 1)", x.over(0, 1), 2);
        CHECK.due("over(0, 2)", x.over(0, 2), -9);
        CHECK.due("over(0, most)", x.over(0, Integer.MAX_VALUE), -9);
        CHECK.due("over(0, least)", x.over(0, Integer.MIN_VALUE), -9);
        x.drive(3, 2);
        x.drive(1, 2);
        CHECK.due("over(2, 0), it bears none", x.over(2, 0), 1);
        CHECK.due("over(2, 1)", x.over(2, 1), 3);
        CHECK.due("over(2, 2)", x.over(2, 2), -9);
        CHECK.due("over(0, 0), 90 of 100", x.over(0, 0), -9);
        x.herd(0, 0, 1);
        x.herd(0, 2, 1);
        x.drive(2, 1);
        x.put(4, 1);
        x.put(5, 1);
        CHECK.due("over(1, 0), 96 of 100", x.over(1, 0), -9);
        CHECK.due("refusals of answers -9", Check.refusals(x), 2);
        overJustSo();
    }

    private static void overJustSo() {
        GrazeBook x = new GrazeBook();
        x.piece(0, 1, 60, true);
        x.owner(0);
        x.right(0, 0, 5000, 720, 0);
        x.herd(0, 0, 2);
        x.herd(0, 2, 1);
        x.put(0, 0);
        CHECK.due("over(0, 0), 60 of 60", x.over(0, 0), -9);
        x.put(1, 0);
        CHECK.due("over(0, 0), 66 of 60", x.over(0, 0), 1);
        CHECK.due("over(0, 1)", x.over(0, 1), -9);
    }

    private static void herdOf() {
        GrazeBook x = common();
        x.herd(1, 2, 17);
        int[] want = {1, 2, 17, -1, 0, 0, 0};
        for (int what = 0; what < want.length; what++) {
            CHECK.due("herdOf(0, " + what + ")", x.herdOf(0, what), want[what]);
        }
        CHECK.due("refusals of herdOf(0, 3)", Check.refusals(x), 0);
        CHECK.refused(x, "herdOf(-1, 9)", () -> x.herdOf(-1, 9), -1);
        CHECK.refused(x, "herdOf(1, 0)", () -> x.herdOf(1, 0), -1);
        CHECK.refused(x, "herdOf(0, 7)", () -> x.herdOf(0, 7), -2);
        CHECK.refused(x, "herdOf(0, -1)", () -> x.herdOf(0, -1), -2);
    }
}
