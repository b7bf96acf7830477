/** Promise 17: pass; growth, treading, eating, the sharing of hunger, water. */
public final class DaysTest {
    private static final Check CHECK = new Check();

    public static void main(String[] args) {
        howMany();
        growth();
        treading();
        eating();
        sharing();
        sharingTies();
        water();
        order();
        CHECK.end();
    }

    private static GrazeBook common(int grass, int full, boolean water) {
        GrazeBook x = new GrazeBook();
        x.piece(grass, full, 0, water);
        x.owner(0);
        x.right(0, 0, 10000, 720, 0);
        x.right(0, 0, 10000, 720, 0);
        x.right(0, 0, 10000, 720, 0);
        return x;
    }

    private static void howMany() {
        GrazeBook x = new GrazeBook();
        CHECK.refused(x, "pass(0)", () -> x.pass(0), -4);
        CHECK.refused(x, "pass(-5)", () -> x.pass(-5), -4);
        CHECK.refused(x, "pass(least)", () -> x.pass(Integer.MIN_VALUE), -4);
        CHECK.refused(x, "pass(721)", () -> x.pass(721), -6);
        CHECK.due("pass(3)", x.pass(3), 0);
        CHECK.due("count(0)", x.count(0), 3);
        CHECK.refused(x, "pass(718)", () -> x.pass(718), -6);
        CHECK.refused(x, "pass(most)", () -> x.pass(Integer.MAX_VALUE), -6);
        CHECK.due("count(0)", x.count(0), 3);
        CHECK.due("pass(717)", x.pass(717), 0);
        CHECK.due("count(0)", x.count(0), 720);
        CHECK.refused(x, "pass(1)", () -> x.pass(1), -6);
        CHECK.refused(x, "pass(0)", () -> x.pass(0), -4);
    }

    private static void growth() {
        GrazeBook x = common(0, 1999, true);
        x.piece(99, 100, 0, true);
        x.piece(100, 100, 0, true);
        x.piece(0, 100000, 0, true);
        x.rate(0, 0, 0);
        x.rate(1, 0, 1);
        x.rate(0, 1, 999);
        x.rate(1, 1, 1000);
        x.weather(2, 1, 0);
        x.weather(3, 0, 1);
        x.weather(4, 1, 1);
        x.pass(1);
        CHECK.due("rate 0: 1", x.pieceOf(0, 0), 1);
        CHECK.due("rate 0, one below full", x.pieceOf(1, 0), 100);
        CHECK.due("rate 0, full", x.pieceOf(2, 0), 100);
        x.pass(1);
        CHECK.due("rate 1, 1.999 cut", x.pieceOf(0, 0), 2);
        CHECK.due("rate 1 of 100000", x.pieceOf(3, 0), 101);
        x.pass(1);
        CHECK.due("rate 999, 1997.001 cut", x.pieceOf(0, 0), 1999);
        CHECK.due("rate 999 of 100000, to full at most", x.pieceOf(3, 0), 100000);
        x.pass(1);
        CHECK.due("rate 1000, full", x.pieceOf(0, 0), 1999);
        CHECK.due("count(6)", x.count(6), 1999 + 100 + 100 + 100000);
    }

    private static void treading() {
        GrazeBook x = common(1000, 1000, true);
        x.piece(1000, 1000, 0, true);
        x.piece(2, 10, 0, true);
        x.herd(0, 0, 9);
        x.herd(0, 2, 5);
        x.herd(0, 1, 10);
        x.weather(1, 7, 9);
        x.weather(2, 8, 0);
        x.weather(3, 9, 0);
        x.put(0, 0);
        x.put(1, 0);
        x.put(2, 2);
        x.pass(1);
        // 300 parts on 0.
        CHECK.due("rain 7 treads nothing", x.pieceOf(0, 0), 700);
        CHECK.due("450 parts eat 3", x.pieceOf(2, 0), 0);
        CHECK.due("their hunger", x.herdOf(2, 4), 447);
        x.pass(1);
        CHECK.due("rain 8: 3 trodden, 1 grown", x.pieceOf(0, 0), 398);
        CHECK.due("no herd, nothing trodden", x.pieceOf(1, 0), 1000);
        CHECK.due("trodden not below 0, then it grows", x.herdOf(2, 4), 447 + 449);
        x.drive(1, 1);
        x.pass(1);
        // 270 parts on 0, 30 on 1.
        CHECK.due("rain 9: 2 trodden, 1 grown", x.pieceOf(0, 0), 398 - 2 + 1 - 270);
        CHECK.due("below 100 parts nothing is trodden", x.pieceOf(1, 0), 970);
        CHECK.due("trodden is not eaten", x.pieceOf(0, 6), 870);

        GrazeBook full = common(1000, 1000, true);
        full.herd(0, 0, 10);
        full.weather(1, 8, 3);
        full.rate(8, 3, 5);
        full.weather(2, 8, 4);
        full.rate(8, 4, 2);
        full.put(0, 0);
        full.pass(1);
        CHECK.due("3 trodden first, then it grows to full", full.pieceOf(0, 0), 700);
        full.pass(1);
        CHECK.due("3 trodden, 2 grown", full.pieceOf(0, 0), 399);
        treadingCut();
    }

    private static void treadingCut() {
        GrazeBook x = common(0, 1000, true);
        x.herd(0, 1, 1);
        x.herd(0, 2, 9);
        x.weather(719, 8, 0);
        x.weather(720, 9, 0);
        x.pass(718);
        x.right(0, 0, 1000, 720, 0);
        x.put(0, 0);
        x.put(1, 0);
        x.pass(1);
        CHECK.due("99 parts tread nothing", x.pieceOf(0, 0), 718 + 1 - 99);
        x.herd(0, 2, 17);
        x.put(2, 0);
        x.pass(1);
        CHECK.due("201 parts tread 2, on the last day, too", x.pieceOf(0, 0), 620 - 2 + 1 - 201);
    }

    private static void eating() {
        GrazeBook x = common(100, 1000, true);
        x.herd(0, 0, 2);
        x.put(0, 0);
        CHECK.due("pass(1)", x.pass(1), 0);
        CHECK.due("pieceOf(0, 0)", x.pieceOf(0, 0), 41);
        CHECK.due("pieceOf(0, 6)", x.pieceOf(0, 6), 60);
        CHECK.due("pass(2)", x.pass(2), 18 + 59);
        CHECK.due("pieceOf(0, 0)", x.pieceOf(0, 0), 0);
        CHECK.due("pieceOf(0, 6)", x.pieceOf(0, 6), 103);
        CHECK.due("herdOf(0, 4)", x.herdOf(0, 4), 77);
        CHECK.due("count(7)", x.count(7), 77);
        CHECK.due("count(8)", x.count(8), 103);
        x.drive(0, -1);
        CHECK.due("pass(5), off", x.pass(5), 0);
        CHECK.due("herdOf(0, 4)", x.herdOf(0, 4), 77);
    }

    private static void sharing() {
        GrazeBook x = common(10, 1000, true);
        x.piece(0, 1, 0, true);
        x.herd(0, 0, 1);
        x.herd(0, 1, 1);
        x.herd(0, 2, 1);
        x.herd(0, 2, 3);
        x.put(3, 1);
        x.put(2, 0);
        x.put(1, 0);
        x.put(0, 0);
        // 81 parts, 11 of grass, 70 lack: 25.93, 38.89, 5.19: cut 25, 38, 5, and one more each of the first two.
        CHECK.due("pass(1)", x.pass(1), 70 + 17);
        CHECK.due("herdOf(0, 4)", x.herdOf(0, 4), 26);
        CHECK.due("herdOf(1, 4)", x.herdOf(1, 4), 39);
        CHECK.due("herdOf(2, 4)", x.herdOf(2, 4), 5);
        CHECK.due("herdOf(3, 4)", x.herdOf(3, 4), 17);
        // 80 lack: 29.63, 44.44, 5.93: one more for 2, one more for 0.
        CHECK.due("pass(1)", x.pass(1), 80 + 17);
        CHECK.due("herdOf(0, 4)", x.herdOf(0, 4), 56);
        CHECK.due("herdOf(1, 4)", x.herdOf(1, 4), 83);
        CHECK.due("herdOf(2, 4)", x.herdOf(2, 4), 11);
    }

    private static void sharingTies() {
        GrazeBook x = common(0, 1000, true);
        for (int h = 0; h < 4; h++) {
            x.herd(0, 2, 1);
        }
        x.put(3, 0);
        x.put(2, 0);
        x.put(1, 0);
        x.put(0, 0);
        x.rate(0, 1, 2);
        x.weather(1, 0, 1);
        // 24 parts, 2 of grass, 22 lack: 5.5 each.
        x.pass(1);
        int[] want = {6, 6, 5, 5};
        for (int h = 0; h < 4; h++) {
            CHECK.due("herdOf(" + h + ", 4)", x.herdOf(h, 4), want[h]);
        }
        // The most that there can be at once.
        GrazeBook most = common(0, 1, false);
        for (int r = 0; r < 6; r++) {
            most.right(0, 0, 10000, 720, 0);
        }
        for (int h = 0; h < 20; h++) {
            most.herd(0, 1, 100);
            most.put(h, 0);
        }
        CHECK.due("pass(720)", most.pass(720), 720 * (89999 + 90000));
        CHECK.due("herdOf(0, 4)", most.herdOf(0, 4), 720 * 9000);
        CHECK.due("herdOf(19, 4)", most.herdOf(19, 4), 720 * 8999);
        CHECK.due("count(7)", most.count(7), 720 * (89999 + 90000));
        CHECK.due("count(8)", most.count(8), 720);
    }

    private static void water() {
        GrazeBook x = common(1000, 1000, false);
        x.herd(0, 0, 1);
        x.herd(0, 2, 1);
        x.put(0, 0);
        x.put(1, 0);
        CHECK.due("pass(2)", x.pass(2), 72);
        CHECK.due("herdOf(0, 4)", x.herdOf(0, 4), 60);
        CHECK.due("herdOf(1, 4)", x.herdOf(1, 4), 12);
        CHECK.due("pieceOf(0, 6)", x.pieceOf(0, 6), 72);
    }

    /** It grows ahead of the eating, and the weather is that of the day that comes. */
    private static void order() {
        GrazeBook x = common(0, 100, true);
        x.herd(0, 0, 1);
        x.put(0, 0);
        x.rate(0, 5, 300);
        x.weather(0, 0, 5);
        x.weather(2, 0, 5);
        CHECK.due("pass(1)", x.pass(1), 29);
        CHECK.due("pass(1)", x.pass(1), 0);
        CHECK.due("pass(1)", x.pass(1), 29);
    }
}
