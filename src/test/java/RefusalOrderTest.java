/**
 * A call answers the first refusal that fits, in the order in which it tells them: for each call each refusal
 * together with each one behind it, on books on which both fit; and nothing changes but the count of the first.
 */
public final class RefusalOrderTest {
    private static final Check CHECK = new Check();
    private static final Twins BUSY = new Twins(CHECK, Recipes::busy);
    private static final Twins FULL = new Twins(CHECK, Recipes::full);
    private static final Twins LAST_DAY = new Twins(CHECK, Recipes::lastDay);
    private static final Twins FULL_OF_OVER = new Twins(CHECK, RefusalOrderTest::fullOfOver);

    public static void main(String[] args) {
        piece();
        ownerAndHouse();
        rateAndWeather();
        rightOther();
        rightNobody();
        rightBelow();
        lendNobody();
        lendOther();
        lendState();
        lendBelowAndLack();
        sell();
        herd();
        put();
        drive();
        restAndFree();
        planNobody();
        planOther();
        planState();
        asking();
        CHECK.end();
    }

    /** Day 3: two owners, a house; rights 0 gross of 0 to day 2, 1 tied to day 2, and 58 more gross of 0 to day 9. */
    private static GrazeBook fullOfOver() {
        GrazeBook x = new GrazeBook();
        x.owner(0);
        x.owner(0);
        x.house(0);
        x.right(0, 0, 10, 2, 0);
        x.right(1, 0, 10, 2, 0);
        for (int r = 2; r < 60; r++) {
            x.right(0, 0, 10, 9, 0);
        }
        x.pass(3);
        return x;
    }

    /** -4 grass, bears below 0, full below 1; -6 full above 100000, grass above full, bears above 10000, 6 PIECES. */
    private static void piece() {
        BUSY.refused("grass below, full above", x -> x.piece(-1, 100001, 0, true), -4);
        BUSY.refused("grass below, bears above", x -> x.piece(-1, 1, 10001, true), -4);
        BUSY.refused("bears below, full above", x -> x.piece(0, 100001, -1, true), -4);
        BUSY.refused("bears below, grass above full", x -> x.piece(2, 1, -1, true), -4);
        BUSY.refused("full below, grass above it", x -> x.piece(1, 0, 0, true), -4);
        BUSY.refused("full below, bears above", x -> x.piece(0, 0, 10001, true), -4);
        FULL.refused("grass below, 6 pieces", x -> x.piece(-1, 1, 0, true), -4);
        FULL.refused("bears below, 6 pieces", x -> x.piece(0, 1, -1, true), -4);
        FULL.refused("full below, 6 pieces", x -> x.piece(0, 0, 0, true), -4);
    }

    private static void ownerAndHouse() {
        FULL.refused("owner: coins below, 10 owners", x -> x.owner(-1), -4);
        FULL.refused("house: no such owner, 10 houses", x -> x.house(10), -1);
        FULL.refused("house: owner -1, 10 houses", x -> x.house(-1), -1);
    }

    /** rate: -2 RAIN, WARMTH; -4; -6 above 1000. weather: -2 rain, warmth; -4 day below 0; -6 above 720. */
    private static void rateAndWeather() {
        BUSY.refused("rate: rain, below", x -> x.rate(10, 0, -1), -2);
        BUSY.refused("rate: rain, above", x -> x.rate(-1, 0, 1001), -2);
        BUSY.refused("rate: warmth, below", x -> x.rate(0, 10, -1), -2);
        BUSY.refused("rate: warmth, above", x -> x.rate(0, -1, 1001), -2);
        BUSY.refused("weather: rain, below", x -> x.weather(-1, 10, 0), -2);
        BUSY.refused("weather: rain, above", x -> x.weather(721, -1, 0), -2);
        BUSY.refused("weather: warmth, below", x -> x.weather(-1, 0, 10), -2);
        BUSY.refused("weather: warmth, above", x -> x.weather(721, 0, -1), -2);
    }

    /** right: -2 (ahead of -1). */
    private static void rightOther() {
        BUSY.refused("kind, no owner", x -> x.right(4, 3, 5, 200, 0), -2);
        BUSY.refused("kind, no owner and no piece", x -> x.right(-1, -1, 5, 200, 9), -2);
        BUSY.refused("kind, parts below", x -> x.right(4, 0, 0, 200, 0), -2);
        BUSY.refused("kind, to ahead of now", x -> x.right(4, 0, 5, 101, 0), -2);
        BUSY.refused("kind, parts above", x -> x.right(4, 0, 10001, 200, 0), -2);
        BUSY.refused("kind, to above", x -> x.right(-1, 0, 5, 721, 0), -2);
        FULL.refused("kind, 60 rights", x -> x.right(4, 0, 5, 200, 0), -2);
    }

    private static void rightNobody() {
        BUSY.refused("no owner, parts below", x -> x.right(0, 3, 0, 200, 0), -1);
        BUSY.refused("no owner, to ahead of now", x -> x.right(0, 3, 5, 101, 0), -1);
        BUSY.refused("no owner, parts above", x -> x.right(2, 3, 10001, 200, 0), -1);
        BUSY.refused("no owner, to above", x -> x.right(0, -1, 5, 721, 0), -1);
        BUSY.refused("no house, parts below", x -> x.right(1, 2, 0, 200, 0), -1);
        BUSY.refused("no house, to above", x -> x.right(1, 2, 5, 721, 0), -1);
        BUSY.refused("no piece, parts below", x -> x.right(3, 0, 0, 200, 3), -1);
        BUSY.refused("no piece, to ahead of now", x -> x.right(3, 0, 5, 101, 3), -1);
        BUSY.refused("no piece, parts above", x -> x.right(3, 0, 10001, 200, -1), -1);
        BUSY.refused("no piece, to above", x -> x.right(3, 0, 5, 721, -1), -1);
        FULL.refused("no owner, 60 rights", x -> x.right(0, 10, 5, 200, 0), -1);
        FULL.refused("no house, 60 rights", x -> x.right(1, 10, 5, 200, 0), -1);
        FULL.refused("no piece, 60 rights", x -> x.right(3, 0, 5, 200, 6), -1);
    }

    private static void rightBelow() {
        BUSY.refused("parts below, to above", x -> x.right(0, 0, 0, 721, 0), -4);
        BUSY.refused("to ahead of now, parts above", x -> x.right(0, 0, 10001, 101, 0), -4);
        FULL.refused("parts below, 60 rights", x -> x.right(0, 0, 0, 200, 0), -4);
        FULL.refused("to ahead of now, 60 rights", x -> x.right(0, 0, 5, 2, 0), -4);
    }

    /** lend: -1 (also its own OWNER); -2; -3; -4; -5; -6. */
    private static void lendNobody() {
        BUSY.refused("no owner, not gross", x -> x.lend(1, 3, 5, 200), -1);
        BUSY.refused("its own owner, not gross", x -> x.lend(1, 0, 5, 200), -1);
        BUSY.refused("its own taker, lent", x -> x.lend(5, 1, 5, 200), -1);
        BUSY.refused("no owner, over", x -> x.lend(4, 3, 5, 200), -1);
        BUSY.refused("its own owner, over", x -> x.lend(4, 0, 5, 200), -1);
        BUSY.refused("its own owner, lapsed", x -> x.lend(6, 2, 5, 200), -1);
        BUSY.refused("no right, parts below", x -> x.lend(11, 1, 0, 200), -1);
        BUSY.refused("its own owner, parts below", x -> x.lend(0, 0, 0, 200), -1);
        BUSY.refused("no owner, to ahead of now", x -> x.lend(0, 3, 5, 101), -1);
        BUSY.refused("its own owner, to ahead of now", x -> x.lend(0, 0, 5, 101), -1);
        BUSY.refused("no owner, too many parts", x -> x.lend(0, 3, 261, 200), -1);
        BUSY.refused("its own owner, too many parts", x -> x.lend(0, 0, 261, 200), -1);
        BUSY.refused("no owner, to behind its last", x -> x.lend(0, 3, 5, 721), -1);
        BUSY.refused("its own owner, to behind its last", x -> x.lend(0, 0, 5, 721), -1);
        FULL.refused("no right, 60 rights", x -> x.lend(60, 1, 5, 200), -1);
        FULL.refused("no owner, 60 rights", x -> x.lend(0, 10, 5, 200), -1);
        FULL.refused("its own owner, 60 rights", x -> x.lend(0, 0, 5, 200), -1);
    }

    private static void lendOther() {
        BUSY.refused("tied, over", x -> x.lend(7, 0, 5, 200), -2);
        BUSY.refused("a walk, parts below", x -> x.lend(2, 1, 0, 200), -2);
        BUSY.refused("a leaze, to ahead of now", x -> x.lend(3, 0, 5, 101), -2);
        BUSY.refused("tied, too many parts", x -> x.lend(1, 1, 61, 200), -2);
        BUSY.refused("lent, too many parts", x -> x.lend(5, 0, 41, 200), -2);
        BUSY.refused("lent, to behind its last", x -> x.lend(5, 0, 5, 701), -2);
        FULL.refused("tied, 60 rights", x -> x.lend(57, 0, 5, 200), -2);
    }

    private static void lendState() {
        BUSY.refused("over, parts below", x -> x.lend(4, 1, 0, 200), -3);
        BUSY.refused("lapsed, parts below", x -> x.lend(6, 1, 0, 200), -3);
        BUSY.refused("over, to ahead of now", x -> x.lend(4, 1, 5, 5), -3);
        BUSY.refused("over, too many parts", x -> x.lend(4, 1, 51, 200), -3);
        BUSY.refused("lapsed, too many parts", x -> x.lend(6, 1, 81, 200), -3);
        BUSY.refused("over, to behind its last", x -> x.lend(4, 1, 5, 102), -3);
        BUSY.refused("lapsed, to behind its last", x -> x.lend(6, 1, 5, 721), -3);
        FULL_OF_OVER.refused("over, 60 rights", x -> x.lend(0, 1, 5, 3), -3);
        FULL_OF_OVER.refused("tied and over, 60 rights", x -> x.lend(1, 1, 5, 3), -2);
    }

    private static void lendBelowAndLack() {
        BUSY.refused("to ahead of now, too many parts", x -> x.lend(0, 1, 261, 101), -4);
        BUSY.refused("parts below, to behind its last", x -> x.lend(0, 1, 0, 721), -4);
        FULL_OF_OVER.refused("parts below, 60 rights", x -> x.lend(2, 1, 0, 9), -4);
        FULL_OF_OVER.refused("to ahead of now, 60 rights", x -> x.lend(2, 1, 5, 2), -4);
        BUSY.refused("too many parts, to behind its last", x -> x.lend(0, 1, 261, 721), -5);
        FULL_OF_OVER.refused("too many parts, 60 rights", x -> x.lend(2, 1, 11, 9), -5);
    }

    /** sell: -1 (also its own); -2; -3 it is not in force. */
    private static void sell() {
        BUSY.refused("no owner, not gross", x -> x.sell(1, 3), -1);
        BUSY.refused("its own owner, not gross", x -> x.sell(1, 0), -1);
        BUSY.refused("its own taker, lent", x -> x.sell(5, 1), -1);
        BUSY.refused("no owner, over", x -> x.sell(4, 3), -1);
        BUSY.refused("its own owner, over", x -> x.sell(4, 0), -1);
        BUSY.refused("its own owner, lapsed", x -> x.sell(6, 2), -1);
        BUSY.refused("tied, over", x -> x.sell(7, 0), -2);
    }

    /** herd: -1; -2; -4; -6 above 100, 20. */
    private static void herd() {
        BUSY.refused("no owner, sort", x -> x.herd(3, 3, 1), -1);
        BUSY.refused("no owner, below", x -> x.herd(3, 0, 0), -1);
        BUSY.refused("no owner, above", x -> x.herd(-1, 0, 101), -1);
        FULL.refused("no owner, 20 herds", x -> x.herd(10, 0, 1), -1);
        BUSY.refused("sort, below", x -> x.herd(0, 3, 0), -2);
        BUSY.refused("sort, above", x -> x.herd(0, -1, 101), -2);
        FULL.refused("sort, 20 herds", x -> x.herd(0, 3, 1), -2);
        FULL.refused("below, 20 herds", x -> x.herd(0, 0, 0), -4);
    }

    /** put: -1; -3 it is LOST, not OFF, in the POUND; the PIECE rests; -5. */
    private static void put() {
        BUSY.refused("no herd, the piece rests", x -> x.put(7, 2), -1);
        BUSY.refused("no piece, lost", x -> x.put(2, 3), -1);
        BUSY.refused("no piece, out", x -> x.put(0, 3), -1);
        BUSY.refused("no piece, out, onto -1", x -> x.put(0, -1), -1);
        BUSY.refused("no piece, in the pound", x -> x.put(3, 3), -1);
        BUSY.refused("no piece, not covered", x -> x.put(5, 3), -1);
        BUSY.refused("out, not covered", x -> x.put(4, 1), -3);
        BUSY.refused("the piece rests, not covered", x -> x.put(5, 2), -3);
        new Twins(CHECK, RefusalOrderTest::noRightsOfOne).refused("lost, not covered", x -> x.put(2, 1), -3);
        new Twins(CHECK, RefusalOrderTest::noRightsOfOne).refused("in the pound, not covered", x -> x.put(3, 1), -3);
    }

    /** Day 31: owner 1 has no right in force, its herd 2 is lost, and 3 is in the pound. */
    private static GrazeBook noRightsOfOne() {
        GrazeBook x = new GrazeBook();
        x.piece(0, 10, 0, true);
        x.piece(0, 10, 0, true);
        x.owner(0);
        x.owner(0);
        x.right(0, 1, 1000, 0, 0);
        for (int h = 0; h < 4; h++) {
            x.herd(1, 0, 1);
        }
        x.put(2, 0);
        x.put(3, 0);
        x.pass(1);
        x.pound(2);
        x.pass(30);
        x.pound(3);
        return x;
    }

    /** drive: -1 (to: -1 is OFF); -3. */
    private static void drive() {
        BUSY.refused("no herd, the piece rests", x -> x.drive(7, 2), -1);
        BUSY.refused("no herd, to off", x -> x.drive(-1, -1), -1);
        BUSY.refused("no piece, lost", x -> x.drive(2, 3), -1);
        BUSY.refused("no piece, off", x -> x.drive(1, 3), -1);
        BUSY.refused("no piece, off, to -2", x -> x.drive(1, -2), -1);
    }

    /** rest: -1; -4; -6. free: -1; -3; -5. */
    private static void restAndFree() {
        BUSY.refused("rest: no piece, ahead of now", x -> x.rest(3, 101), -1);
        BUSY.refused("rest: no piece, above", x -> x.rest(-1, 741), -1);
        BUSY.refused("free: lost, no coins", x -> x.free(2), -3);
        LAST_DAY.refused("free: lost by now, no coins", x -> x.free(3), -3);
    }

    /** plan: -1 (also if both are one); -2 steps, days; -3; -6. */
    private static void planNobody() {
        BUSY.refused("no herd, steps", x -> x.plan(7, -1, 0, 1), -1);
        BUSY.refused("no other, steps", x -> x.plan(0, 7, 3, 1), -1);
        BUSY.refused("both are one, steps", x -> x.plan(0, 0, 5, 1), -1);
        BUSY.refused("both are one, days", x -> x.plan(0, 0, 1, 11), -1);
        BUSY.refused("no herd, days", x -> x.plan(-1, -1, 1, 0), -1);
        BUSY.refused("no herd, the other is lost", x -> x.plan(7, 2, 1, 1), -1);
        BUSY.refused("no other, the first is in the pound", x -> x.plan(3, 7, 1, 1), -1);
        BUSY.refused("both are one, which is lost", x -> x.plan(2, 2, 1, 1), -1);
        LAST_DAY.refused("no herd, beyond day 720", x -> x.plan(7, -1, 1, 1), -1);
        LAST_DAY.refused("both are one, beyond day 720", x -> x.plan(0, 0, 1, 1), -1);
    }

    private static void planOther() {
        BUSY.refused("steps, lost", x -> x.plan(2, -1, 5, 1), -2);
        BUSY.refused("days, in the pound", x -> x.plan(0, 3, 1, 11), -2);
        Twins atRest = new Twins(CHECK, RefusalOrderTest::allAtRest);
        atRest.refused("steps, all rest", x -> x.plan(0, 1, 3, 1), -2);
        atRest.refused("days, all rest", x -> x.plan(0, -1, 1, 0), -2);
        LAST_DAY.refused("steps, beyond day 720", x -> x.plan(0, 1, 3, 1), -2);
        LAST_DAY.refused("days, beyond day 720", x -> x.plan(0, -1, 1, 11), -2);
    }

    private static GrazeBook allAtRest() {
        GrazeBook x = Recipes.busy();
        for (int p = 0; p < 3; p++) {
            x.rest(p, 740);
        }
        return x;
    }

    private static void planState() {
        LAST_DAY.refused("lost, beyond day 720", x -> x.plan(2, -1, 1, 1), -3);
        LAST_DAY.refused("the other lost, beyond day 720", x -> x.plan(0, 2, 1, 1), -3);
        Twins lastAtRest = new Twins(CHECK, RefusalOrderTest::allAtRestOnTheLastDay);
        lastAtRest.refused("in the pound, beyond day 720", x -> x.plan(4, -1, 1, 1), -3);
        lastAtRest.refused("all rest, beyond day 720", x -> x.plan(0, -1, 1, 1), -3);
    }

    private static GrazeBook allAtRestOnTheLastDay() {
        GrazeBook x = Recipes.lastDay();
        x.pound(4);
        for (int p = 0; p < 3; p++) {
            x.rest(p, 721);
        }
        return x;
    }

    /** pieceOf, rightOf, herdOf, ownerOf: -1; -2. over: -1 whatever i is. */
    private static void asking() {
        BUSY.refused("pieceOf(3, 7)", x -> x.pieceOf(3, 7), -1);
        BUSY.refused("pieceOf(-1, -1)", x -> x.pieceOf(-1, -1), -1);
        BUSY.refused("rightOf(11, 9)", x -> x.rightOf(11, 9), -1);
        BUSY.refused("rightOf(-1, -1)", x -> x.rightOf(-1, -1), -1);
        BUSY.refused("herdOf(7, 7)", x -> x.herdOf(7, 7), -1);
        BUSY.refused("herdOf(-1, -1)", x -> x.herdOf(-1, -1), -1);
        BUSY.refused("ownerOf(3, 4)", x -> x.ownerOf(3, 4), -1);
        BUSY.refused("ownerOf(-2, -1)", x -> x.ownerOf(-2, -1), -1);
        BUSY.refused("over(-1, -1)", x -> x.over(-1, -1), -1);
    }
}
