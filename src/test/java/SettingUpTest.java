/** Promises 1 to 6: a new object, piece, owner, house, rate, weather. */
public final class SettingUpTest {
    private static final Check CHECK = new Check();

    public static void main(String[] args) {
        newObject();
        pieces();
        owners();
        houses();
        rates();
        weather();
        CHECK.end();
    }

    private static void newObject() {
        GrazeBook x = new GrazeBook();
        for (int what = 0; what <= 9; what++) {
            CHECK.due("count(" + what + ")", x.count(what), 0);
        }
        for (int what = 11; what <= 16; what++) {
            CHECK.due("count(" + what + ")", x.count(what), 0);
        }
        CHECK.due("ownerOf(-1, 0)", x.ownerOf(-1, 0), 0);
        CHECK.due("ownerOf(-1, 1)", x.ownerOf(-1, 1), 0);
        CHECK.due("planned(0, 0)", x.planned(0, 0), -9);
        for (int rain = 0; rain <= 9; rain++) {
            for (int warmth = 0; warmth <= 9; warmth++) {
                CHECK.due("rate of a new book", x.rate(rain, warmth, 0), 0);
            }
        }
        // All weather is 0, 0 at first: on every day it grows by the rate of that alone.
        for (int rain = 0; rain <= 9; rain++) {
            for (int warmth = 0; warmth <= 9; warmth++) {
                x.rate(rain, warmth, rain + warmth == 0 ? 10 : 1000);
            }
        }
        x.piece(0, 100000, 0, true);
        CHECK.due("pass(90)", x.pass(90), 0);
        CHECK.due("pieceOf(0, 0)", x.pieceOf(0, 0), 90000);
    }

    private static void pieces() {
        GrazeBook x = new GrazeBook();
        CHECK.refused(x, "piece(-1, 1, 0)", () -> x.piece(-1, 1, 0, true), -4);
        CHECK.refused(x, "piece(0, 1, -1)", () -> x.piece(0, 1, -1, true), -4);
        CHECK.refused(x, "piece(0, 0, 0)", () -> x.piece(0, 0, 0, true), -4);
        CHECK.refused(x, "piece(-1, 100001, 10001)", () -> x.piece(-1, 100001, 10001, true), -4);
        CHECK.refused(x, "piece(0, least, 0)", () -> x.piece(0, Integer.MIN_VALUE, 0, true), -4);
        CHECK.refused(x, "piece(0, 100001, 0)", () -> x.piece(0, 100001, 0, true), -6);
        CHECK.refused(x, "piece(6, 5, 0)", () -> x.piece(6, 5, 0, true), -6);
        CHECK.refused(x, "piece(0, 5, 10001)", () -> x.piece(0, 5, 10001, true), -6);
        CHECK.due("count(1)", x.count(1), 0);
        CHECK.due("piece(0, 1, 0)", x.piece(0, 1, 0, true), 0);
        CHECK.due("piece(100000, 100000, 10000)", x.piece(100000, 100000, 10000, false), 1);
        CHECK.due("piece(3, 8, 7)", x.piece(3, 8, 7, true), 2);
        CHECK.due("pieceOf(2, 0)", x.pieceOf(2, 0), 3);
        CHECK.due("pieceOf(2, 1)", x.pieceOf(2, 1), 8);
        CHECK.due("pieceOf(2, 2)", x.pieceOf(2, 2), 7);
        CHECK.due("pieceOf(2, 3)", x.pieceOf(2, 3), -1);
        CHECK.due("piece 3", x.piece(1, 1, 1, true), 3);
        CHECK.due("piece 4", x.piece(1, 1, 1, true), 4);
        CHECK.due("piece 5", x.piece(1, 1, 1, true), 5);
        CHECK.refused(x, "piece 6", () -> x.piece(1, 1, 1, true), -6);
        CHECK.refused(x, "piece 6, too little", () -> x.piece(-1, 1, 1, true), -4);
        CHECK.due("count(1)", x.count(1), 6);
        CHECK.due("count(6)", x.count(6), 100006);
    }

    private static void owners() {
        GrazeBook x = new GrazeBook();
        CHECK.refused(x, "owner(-1)", () -> x.owner(-1), -4);
        CHECK.refused(x, "owner(100001)", () -> x.owner(100001), -6);
        CHECK.due("owner(100000)", x.owner(100000), 0);
        CHECK.due("ownerOf(0, 0)", x.ownerOf(0, 0), 100000);
        for (int o = 1; o < 10; o++) {
            CHECK.due("owner(" + o + ")", x.owner(o), o);
            CHECK.due("ownerOf(" + o + ", 0)", x.ownerOf(o, 0), o);
        }
        CHECK.refused(x, "owner 10", () -> x.owner(0), -6);
        CHECK.refused(x, "owner 10, too little", () -> x.owner(-1), -4);
        CHECK.due("count(2)", x.count(2), 10);
    }

    private static void houses() {
        GrazeBook x = new GrazeBook();
        CHECK.refused(x, "house(0)", () -> x.house(0), -1);
        x.owner(0);
        x.owner(0);
        CHECK.refused(x, "house(-1)", () -> x.house(-1), -1);
        CHECK.refused(x, "house(2)", () -> x.house(2), -1);
        for (int h = 0; h < 10; h++) {
            CHECK.due("house " + h, x.house(h % 2), h);
        }
        CHECK.refused(x, "house 10", () -> x.house(0), -6);
        CHECK.refused(x, "house 10 of nobody", () -> x.house(2), -1);
        CHECK.due("count(3)", x.count(3), 10);
        CHECK.due("right of house 3", x.right(1, 3, 5, 9, 0), 0);
        CHECK.due("rightOf(0, 1)", x.rightOf(0, 1), 1);
    }

    private static void rates() {
        GrazeBook x = new GrazeBook();
        CHECK.refused(x, "rate(-1, 0, 0)", () -> x.rate(-1, 0, 0), -2);
        CHECK.refused(x, "rate(10, 0, 0)", () -> x.rate(10, 0, 0), -2);
        CHECK.refused(x, "rate(0, -1, -1)", () -> x.rate(0, -1, -1), -2);
        CHECK.refused(x, "rate(0, 10, 1001)", () -> x.rate(0, 10, 1001), -2);
        CHECK.refused(x, "rate(0, 0, -1)", () -> x.rate(0, 0, -1), -4);
        CHECK.refused(x, "rate(9, 9, 1001)", () -> x.rate(9, 9, 1001), -6);
        CHECK.due("rate(9, 9, 1000)", x.rate(9, 9, 1000), 0);
        CHECK.due("rate(9, 9, 3)", x.rate(9, 9, 3), 1000);
        CHECK.due("rate(9, 9, 0)", x.rate(9, 9, 0), 3);
        CHECK.due("rate(3, 4, 34)", x.rate(3, 4, 34), 0);
        CHECK.due("rate(4, 3, 43)", x.rate(4, 3, 43), 0);
        CHECK.due("rate(3, 4, 1)", x.rate(3, 4, 1), 34);
    }

    private static void weather() {
        GrazeBook x = new GrazeBook();
        CHECK.refused(x, "weather(-1, 10, 0)", () -> x.weather(-1, 10, 0), -2);
        CHECK.refused(x, "weather(721, -1, 0)", () -> x.weather(721, -1, 0), -2);
        CHECK.refused(x, "weather(0, 0, 10)", () -> x.weather(0, 0, 10), -2);
        CHECK.refused(x, "weather(0, 0, -1)", () -> x.weather(0, 0, -1), -2);
        CHECK.refused(x, "weather(-1, 0, 0)", () -> x.weather(-1, 0, 0), -4);
        CHECK.refused(x, "weather(721, 0, 0)", () -> x.weather(721, 0, 0), -6);
        CHECK.due("weather(0, 9, 9)", x.weather(0, 9, 9), 1);
        CHECK.due("weather(1, 2, 7)", x.weather(1, 2, 7), 1);
        CHECK.due("weather(2, 7, 2)", x.weather(2, 7, 2), 1);
        CHECK.due("weather(720, 5, 5)", x.weather(720, 5, 5), 1);
        x.rate(2, 7, 100);
        x.rate(7, 2, 200);
        x.rate(5, 5, 50);
        x.piece(0, 10000, 0, true);
        x.pass(1);
        CHECK.due("grass on day 1", x.pieceOf(0, 0), 1000);
        x.pass(1);
        CHECK.due("grass on day 2", x.pieceOf(0, 0), 3000);
        x.pass(717);
        CHECK.due("grass on day 719", x.pieceOf(0, 0), 3717);
        x.pass(1);
        CHECK.due("grass on day 720", x.pieceOf(0, 0), 4217);
    }
}
