/** Books in states that the tests ask from; each is made by fewer than 117 calls. */
final class Recipes {
    private Recipes() {
    }

    static GrazeBook fresh() {
        return new GrazeBook();
    }

    /**
     * Day 102. Pieces: 0 with herds, 1 empty, 2 empty and at rest up to day 110. Owners: 0 (50 coins), 1 (none),
     * 2 (1000). Houses: 0 of owner 0, 1 of owner 1.
     * Rights: 0 gross of 0, 300 parts of which 5 has 40; 1 tied to house 0; 2 a walk of 0; 3 a leaze of 1 on piece 1;
     * 4 gross of 0, over; 5 lent to 1 out of 0; 6 gross of 2, lapsed; 7 tied to house 1, over; 8 gross of 1, over;
     * 9 gross of 2, over; 10 gross of 2, 5 parts.
     * Herds: 0 of 0, out on 0; 1 of 0, off; 2 of 1, lost; 3 of 1, in the pound for its second day; 4 of 2, a stray
     * on 0; 5 of 2, off, more than the rights of 2; 6 of 0, out on 0.
     */
    static GrazeBook busy() {
        GrazeBook x = new GrazeBook();
        x.piece(5000, 9000, 70, true);
        x.piece(400, 9000, 100, false);
        x.piece(300, 9000, 0, true);
        x.owner(50);
        x.owner(0);
        x.owner(1000);
        x.house(0);
        x.house(1);
        x.rate(0, 0, 3);
        x.rate(1, 1, 7);
        x.rate(9, 9, 11);
        x.weather(1, 1, 1);
        x.weather(103, 9, 9);
        x.weather(720, 1, 1);
        x.right(0, 0, 300, 720, 0);
        x.right(1, 0, 60, 720, 0);
        x.right(2, 0, 60, 720, 0);
        x.right(3, 1, 60, 720, 1);
        x.right(0, 0, 50, 5, 0);
        x.lend(0, 1, 40, 700);
        x.right(0, 2, 80, 720, 0);
        x.right(1, 1, 50, 5, 0);
        x.right(0, 1, 200, 0, 0);
        x.herd(0, 0, 2);
        x.herd(0, 2, 3);
        x.herd(1, 0, 1);
        x.herd(1, 1, 3);
        x.herd(2, 2, 4);
        x.herd(2, 0, 5);
        x.herd(0, 2, 1);
        x.put(0, 0);
        x.put(2, 0);
        x.put(3, 1);
        x.put(6, 0);
        x.pass(6);
        x.pound(2);
        x.pass(95);
        x.pound(3);
        x.right(0, 2, 24, 101, 0);
        x.right(0, 2, 5, 720, 0);
        x.put(4, 0);
        x.pass(1);
        x.rest(2, 110);
        x.plan(0, 1, 2, 3);
        return x;
    }

    /** Day 3: six pieces, ten owners, ten houses, sixty rights, twenty herds of which six are out. */
    static GrazeBook full() {
        GrazeBook x = new GrazeBook();
        for (int p = 0; p < 6; p++) {
            x.piece(1000 * p, 9000, 10 * p, p != 5);
        }
        for (int o = 0; o < 10; o++) {
            x.owner(o);
        }
        for (int h = 0; h < 10; h++) {
            x.house(h);
        }
        x.pass(3);
        for (int r = 0; r < 60; r++) {
            x.right(r < 56 ? 0 : r - 56, r % 10, 100, 720, 0);
        }
        for (int h = 0; h < 20; h++) {
            x.herd(h % 10, h % 3, 1);
        }
        for (int h = 0; h < 6; h++) {
            x.put(h, h % 4);
        }
        return x;
    }

    /** A busy book on the last day. */
    static GrazeBook lastDay() {
        GrazeBook x = busy();
        x.pass(618);
        return x;
    }
}
