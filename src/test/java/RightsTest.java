/** Promises 7 to 10 and 25: right, lend, sell, move, rightOf; and how rights lapse. */
public final class RightsTest {
    private static final Check CHECK = new Check();

    public static void main(String[] args) {
        right();
        sixtyRights();
        lend();
        lentPartsCountAgain();
        sell();
        move();
        rightOf();
        lapseUnused();
        lapseAfterUse();
        kindsOfUse();
        useOfLent();
        lentOutlivesItsSource();
        usedAreFoundFirst();
        CHECK.end();
    }

    /** Two pieces, three owners, a house of owner 1. */
    private static GrazeBook common() {
        GrazeBook x = new GrazeBook();
        x.piece(0, 1000, 100, true);
        x.piece(0, 1000, 100, true);
        x.owner(0);
        x.owner(0);
        x.owner(0);
        x.house(1);
        return x;
    }

    private static void right() {
        GrazeBook x = common();
        x.pass(10);
        CHECK.refused(x, "right(-1, 9, ..)", () -> x.right(-1, 9, 0, 0, 0), -2);
        CHECK.refused(x, "right(4, 0, ..)", () -> x.right(4, 0, 1, 20, 0), -2);
        CHECK.refused(x, "right(5, 0, ..)", () -> x.right(5, 0, 1, 20, 0), -2);
        CHECK.refused(x, "right(0, 3, 0, ..)", () -> x.right(0, 3, 0, 0, 0), -1);
        CHECK.refused(x, "right(0, -1, ..)", () -> x.right(0, -1, 1, 20, 0), -1);
        CHECK.refused(x, "right(1, 1, ..) of no house", () -> x.right(1, 1, 1, 20, 0), -1);
        CHECK.refused(x, "right(2, 3, ..)", () -> x.right(2, 3, 1, 20, 0), -1);
        CHECK.refused(x, "right(3, 0, .., 2)", () -> x.right(3, 0, 0, 20, 2), -1);
        CHECK.refused(x, "right(3, 0, .., -1)", () -> x.right(3, 0, 1, 20, -1), -1);
        CHECK.refused(x, "right(0, 0, 0, 721, 0)", () -> x.right(0, 0, 0, 721, 0), -4);
        CHECK.refused(x, "right(0, 0, 10001, 9, 0)", () -> x.right(0, 0, 10001, 9, 0), -4);
        CHECK.refused(x, "right(0, 0, 10001, 20, 0)", () -> x.right(0, 0, 10001, 20, 0), -6);
        CHECK.refused(x, "right(0, 0, 1, 721, 0)", () -> x.right(0, 0, 1, 721, 0), -6);
        CHECK.due("right(0, 0, 1, 10, -5)", x.right(0, 0, 1, 10, -5), 0);
        CHECK.due("right(1, 0, 10000, 720, 9)", x.right(1, 0, 10000, 720, 9), 1);
        CHECK.due("right(2, 2, 7, 11, 9)", x.right(2, 2, 7, 11, 9), 2);
        CHECK.due("right(3, 2, 8, 11, 1)", x.right(3, 2, 8, 11, 1), 3);
        CHECK.due("count(4)", x.count(4), 4);
        CHECK.due("ownerOf(2, 3)", x.ownerOf(2, 3), 15);
        x.pass(1);
        CHECK.due("rightOf(0, 6) behind its last day", x.rightOf(0, 6), 0);
        CHECK.due("rightOf(0, 2) behind its last day", x.rightOf(0, 2), 0);
        CHECK.due("rightOf(0, 5) behind its last day", x.rightOf(0, 5), 0);
        CHECK.due("rightOf(2, 6) on its last day", x.rightOf(2, 6), 1);
        CHECK.due("count(4)", x.count(4), 3);
        x.pass(1);
        CHECK.due("count(4)", x.count(4), 1);
    }

    private static void sixtyRights() {
        GrazeBook x = common();
        for (int r = 0; r < 59; r++) {
            CHECK.due("right " + r, x.right(0, 0, 10, 0, 0), r);
        }
        CHECK.due("lend, the 60th", x.lend(0, 1, 1, 0), 59);
        CHECK.refused(x, "right, the 61st", () -> x.right(0, 0, 10, 0, 0), -6);
        CHECK.refused(x, "lend, the 61st", () -> x.lend(1, 1, 1, 0), -6);
        CHECK.refused(x, "lend, the 61st, too much", () -> x.lend(1, 1, 11, 0), -5);
        x.pass(1);
        CHECK.due("count(4)", x.count(4), 0);
        CHECK.refused(x, "right, though none is in force", () -> x.right(0, 0, 10, 5, 0), -6);
    }

    private static void lend() {
        GrazeBook x = common();
        x.right(0, 0, 60, 40, 0);
        x.right(1, 0, 60, 40, 0);
        x.right(2, 0, 60, 40, 0);
        x.right(3, 0, 60, 40, 0);
        x.right(0, 0, 60, 3, 0);
        x.pass(4);
        CHECK.refused(x, "lend(-1, 1, ..)", () -> x.lend(-1, 1, 10, 20), -1);
        CHECK.refused(x, "lend(5, 1, ..)", () -> x.lend(5, 1, 10, 20), -1);
        CHECK.refused(x, "lend(0, 3, ..)", () -> x.lend(0, 3, 10, 20), -1);
        CHECK.refused(x, "lend(0, -1, ..)", () -> x.lend(0, -1, 10, 20), -1);
        CHECK.refused(x, "lend to its own", () -> x.lend(0, 0, 10, 20), -1);
        CHECK.refused(x, "lend a tied one to its own", () -> x.lend(1, 1, 10, 20), -1);
        CHECK.refused(x, "lend a tied one", () -> x.lend(1, 0, 0, 20), -2);
        CHECK.refused(x, "lend a walk", () -> x.lend(2, 1, 10, 20), -2);
        CHECK.refused(x, "lend a leaze", () -> x.lend(3, 1, 10, 20), -2);
        CHECK.refused(x, "lend what is no more in force", () -> x.lend(4, 1, 0, 3), -3);
        CHECK.refused(x, "lend(0, 1, 0, 99)", () -> x.lend(0, 1, 0, 99), -4);
        CHECK.refused(x, "lend(0, 1, 61, 3)", () -> x.lend(0, 1, 61, 3), -4);
        CHECK.refused(x, "lend(0, 1, 61, 99)", () -> x.lend(0, 1, 61, 99), -5);
        CHECK.refused(x, "lend(0, 1, 60, 41)", () -> x.lend(0, 1, 60, 41), -6);
        CHECK.due("lend(0, 1, 25, 40)", x.lend(0, 1, 25, 40), 5);
        CHECK.due("rightOf(0, 2)", x.rightOf(0, 2), 35);
        CHECK.refused(x, "lend more than counts", () -> x.lend(0, 2, 36, 20), -5);
        CHECK.due("lend(0, 2, 35, 4)", x.lend(0, 2, 35, 4), 6);
        CHECK.due("rightOf(0, 2), all lent", x.rightOf(0, 2), 0);
        CHECK.due("rightOf(0, 6), all lent", x.rightOf(0, 6), 1);
        CHECK.refused(x, "lend when all is lent", () -> x.lend(0, 2, 1, 20), -5);
        CHECK.refused(x, "lend a lent one", () -> x.lend(5, 2, 1, 20), -2);
        CHECK.refused(x, "lend a lent one to its own", () -> x.lend(5, 1, 1, 20), -1);
        CHECK.due("rightOf(5, 0)", x.rightOf(5, 0), 4);
        CHECK.due("rightOf(5, 1)", x.rightOf(5, 1), 1);
        CHECK.due("rightOf(5, 2)", x.rightOf(5, 2), 25);
        CHECK.due("rightOf(5, 3)", x.rightOf(5, 3), 4);
        CHECK.due("rightOf(5, 4)", x.rightOf(5, 4), 40);
        CHECK.due("rightOf(5, 7)", x.rightOf(5, 7), 0);
    }

    private static void lentPartsCountAgain() {
        GrazeBook x = common();
        x.right(0, 0, 60, 40, 0);
        x.lend(0, 1, 25, 2);
        x.lend(0, 2, 5, 1);
        CHECK.due("rightOf(0, 2)", x.rightOf(0, 2), 30);
        x.pass(1);
        CHECK.due("rightOf(0, 2) on the last day of both", x.rightOf(0, 2), 30);
        x.pass(1);
        CHECK.due("rightOf(0, 2) when one is over", x.rightOf(0, 2), 35);
        x.pass(1);
        CHECK.due("rightOf(0, 2) when both are over", x.rightOf(0, 2), 60);
        CHECK.due("ownerOf(1, 3)", x.ownerOf(1, 3), 0);
    }

    private static void sell() {
        GrazeBook x = common();
        x.right(0, 0, 60, 4, 0);
        x.right(1, 0, 60, 40, 0);
        x.right(2, 0, 60, 40, 0);
        x.lend(0, 1, 20, 4);
        CHECK.refused(x, "sell(-1, 1)", () -> x.sell(-1, 1), -1);
        CHECK.refused(x, "sell(4, 1)", () -> x.sell(4, 1), -1);
        CHECK.refused(x, "sell(0, 3)", () -> x.sell(0, 3), -1);
        CHECK.refused(x, "sell to its own", () -> x.sell(0, 0), -1);
        CHECK.refused(x, "sell a tied one to its own", () -> x.sell(1, 1), -1);
        CHECK.refused(x, "sell a tied one", () -> x.sell(1, 0), -2);
        CHECK.refused(x, "sell a walk", () -> x.sell(2, 1), -2);
        CHECK.refused(x, "sell a lent one", () -> x.sell(3, 2), -2);
        CHECK.due("sell(0, 2)", x.sell(0, 2), 1);
        CHECK.due("rightOf(0, 1)", x.rightOf(0, 1), 2);
        CHECK.due("rightOf(0, 2)", x.rightOf(0, 2), 40);
        CHECK.due("rightOf(3, 1)", x.rightOf(3, 1), 1);
        CHECK.due("rightOf(3, 2)", x.rightOf(3, 2), 20);
        CHECK.due("ownerOf(0, 3)", x.ownerOf(0, 3), 60);
        CHECK.due("ownerOf(2, 3)", x.ownerOf(2, 3), 40);
        CHECK.due("sell to the one to whom it is lent", x.sell(0, 1), 1);
        CHECK.due("rightOf(0, 2)", x.rightOf(0, 2), 40);
        CHECK.due("ownerOf(1, 3)", x.ownerOf(1, 3), 120);
        x.pass(5);
        CHECK.refused(x, "sell what is no more in force", () -> x.sell(0, 2), -3);
    }

    private static void move() {
        GrazeBook x = common();
        x.right(1, 0, 60, 40, 0);
        CHECK.refused(x, "move(-1, 0)", () -> x.move(-1, 0), -1);
        CHECK.refused(x, "move(1, 0)", () -> x.move(1, 0), -1);
        CHECK.refused(x, "move(0, 3)", () -> x.move(0, 3), -1);
        CHECK.refused(x, "move(0, -1)", () -> x.move(0, -1), -1);
        CHECK.refused(x, "move to its own", () -> x.move(0, 1), -1);
        CHECK.due("move(0, 2)", x.move(0, 2), 1);
        CHECK.due("rightOf(0, 1)", x.rightOf(0, 1), 2);
        CHECK.due("ownerOf(1, 3)", x.ownerOf(1, 3), 0);
        CHECK.due("ownerOf(2, 3)", x.ownerOf(2, 3), 60);
        CHECK.due("move(0, 1), back", x.move(0, 1), 1);
    }

    private static void rightOf() {
        GrazeBook x = common();
        CHECK.refused(x, "rightOf(0, 0), none yet", () -> x.rightOf(0, 0), -1);
        x.pass(3);
        x.right(2, 1, 12, 9, 0);
        int[] want = {2, 1, 12, 3, 9, 0, 1, -9, -9};
        for (int what = 0; what < want.length; what++) {
            CHECK.due("rightOf(0, " + what + ")", x.rightOf(0, what), want[what]);
        }
        CHECK.refused(x, "rightOf(-1, 9)", () -> x.rightOf(-1, 9), -1);
        CHECK.refused(x, "rightOf(1, 0)", () -> x.rightOf(1, 0), -1);
        CHECK.refused(x, "rightOf(0, 9)", () -> x.rightOf(0, 9), -2);
        CHECK.refused(x, "rightOf(0, -1)", () -> x.rightOf(0, -1), -2);
        CHECK.due("refusals of answers -9", Check.refusals(x), 5);
    }

    private static void lapseUnused() {
        GrazeBook x = common();
        x.pass(5);
        x.right(0, 0, 10, 720, 0);
        x.right(0, 0, 10, 104, 0);
        x.right(0, 0, 10, 105, 0);
        x.pass(99);
        CHECK.due("count(9) after 99 days", x.count(9), 0);
        CHECK.due("count(4) after 99 days", x.count(4), 3);
        x.pass(1);
        CHECK.due("count(9) after 100 days", x.count(9), 2);
        CHECK.due("rightOf(0, 5)", x.rightOf(0, 5), 1);
        CHECK.due("rightOf(0, 6)", x.rightOf(0, 6), 0);
        CHECK.due("rightOf(0, 2)", x.rightOf(0, 2), 0);
        CHECK.due("rightOf(1, 5), over the day before", x.rightOf(1, 5), 0);
        CHECK.due("rightOf(2, 5), on its last day", x.rightOf(2, 5), 1);
        CHECK.due("count(4)", x.count(4), 0);
        CHECK.refused(x, "sell what is gone", () -> x.sell(0, 1), -3);
        CHECK.refused(x, "lend what is gone", () -> x.lend(0, 1, 1, 105), -3);
        x.pass(1);
        CHECK.due("count(9), each lapses once", x.count(9), 2);
    }

    private static void lapseAfterUse() {
        GrazeBook x = common();
        x.right(0, 0, 30, 720, 0);
        x.herd(0, 0, 1);
        x.put(0, 0);
        CHECK.due("rightOf(0, 8), no day passed", x.rightOf(0, 8), -9);
        x.pass(7);
        CHECK.due("rightOf(0, 8)", x.rightOf(0, 8), 7);
        x.drive(0, -1);
        x.pass(99);
        CHECK.due("rightOf(0, 8)", x.rightOf(0, 8), 7);
        CHECK.due("rightOf(0, 5), the 100 days have its use in them", x.rightOf(0, 5), 0);
        x.pass(1);
        CHECK.due("rightOf(0, 5), they have not", x.rightOf(0, 5), 1);
        CHECK.due("count(9)", x.count(9), 1);
        CHECK.refused(x, "put under what is gone", () -> x.put(0, 0), -5);
    }

    private static void kindsOfUse() {
        GrazeBook x = common();
        x.right(0, 1, 100, 720, 0);
        x.right(1, 0, 1, 720, 0);
        x.right(2, 1, 1, 720, 0);
        x.right(3, 1, 1, 720, 0);
        x.right(3, 1, 1, 720, 1);
        x.right(0, 2, 1, 720, 0);
        x.herd(1, 0, 1);
        x.herd(1, 2, 1);
        x.pass(1);
        for (int r = 0; r < 6; r++) {
            CHECK.due("rightOf(" + r + ", 8), herds off", x.rightOf(r, 8), -9);
        }
        x.put(0, 1);
        x.pass(1);
        int[] cow = {2, 2, -9, -9, 2, -9};
        for (int r = 0; r < 6; r++) {
            CHECK.due("rightOf(" + r + ", 8), a cow on 1", x.rightOf(r, 8), cow[r]);
        }
        x.drive(0, -1);
        x.put(1, 0);
        x.pass(1);
        int[] sheep = {3, 3, 3, 3, 2, -9};
        for (int r = 0; r < 6; r++) {
            CHECK.due("rightOf(" + r + ", 8), a sheep on 0", x.rightOf(r, 8), sheep[r]);
        }
        x.move(0, 2);
        x.pass(1);
        CHECK.due("rightOf(1, 8), of a house that moved", x.rightOf(1, 8), 3);
    }

    private static void useOfLent() {
        GrazeBook x = common();
        x.right(0, 0, 30, 720, 0);
        x.lend(0, 1, 30, 150);
        x.herd(1, 0, 1);
        x.herd(0, 2, 1);
        x.put(0, 0);
        x.drive(1, 0);
        x.pass(150);
        CHECK.due("rightOf(1, 8)", x.rightOf(1, 8), 150);
        CHECK.due("rightOf(0, 8), by what is lent out of it", x.rightOf(0, 8), 150);
        CHECK.due("count(9)", x.count(9), 0);
        x.pass(99);
        CHECK.due("rightOf(0, 5)", x.rightOf(0, 5), 0);
        CHECK.due("rightOf(0, 2)", x.rightOf(0, 2), 30);
        x.pass(1);
        CHECK.due("rightOf(0, 5)", x.rightOf(0, 5), 1);

        GrazeBook y = common();
        y.right(0, 0, 36, 720, 0);
        y.herd(0, 2, 1);
        y.put(0, 0);
        y.lend(0, 1, 36, 2);
        y.pass(1);
        CHECK.due("rightOf(0, 8), no parts of it count", y.rightOf(0, 8), -9);
        y.pass(2);
        CHECK.due("rightOf(0, 8), they count again", y.rightOf(0, 8), 3);
        CHECK.due("rightOf(1, 8), the taker had no herd", y.rightOf(1, 8), -9);
    }

    private static void lentOutlivesItsSource() {
        GrazeBook x = common();
        x.right(0, 0, 30, 720, 0);
        x.pass(50);
        x.lend(0, 1, 30, 200);
        x.pass(50);
        CHECK.due("rightOf(0, 5)", x.rightOf(0, 5), 1);
        CHECK.due("rightOf(1, 6)", x.rightOf(1, 6), 1);
        CHECK.due("rightOf(1, 2)", x.rightOf(1, 2), 30);
        x.pass(49);
        CHECK.due("rightOf(1, 5)", x.rightOf(1, 5), 0);
        x.pass(1);
        CHECK.due("rightOf(1, 5)", x.rightOf(1, 5), 1);
        CHECK.due("count(9)", x.count(9), 2);
    }

    private static void usedAreFoundFirst() {
        GrazeBook x = common();
        x.right(0, 0, 30, 720, 0);
        x.lend(0, 1, 30, 720);
        x.herd(0, 0, 1);
        x.pass(99);
        x.right(0, 0, 30, 99, 0);
        x.put(0, 0);
        x.pass(1);
        // No part of the first right counts on that day, though what is lent out of it lapses then.
        CHECK.due("count(9)", x.count(9), 2);
        CHECK.due("rightOf(0, 8)", x.rightOf(0, 8), -9);

        GrazeBook y = common();
        y.right(0, 0, 30, 720, 0);
        y.lend(0, 1, 30, 720);
        y.herd(1, 0, 1);
        y.pass(99);
        y.put(0, 0);
        y.pass(1);
        CHECK.due("count(9), used on the last of the days", y.count(9), 0);
        CHECK.due("rightOf(0, 8)", y.rightOf(0, 8), 100);
    }
}
