/** Promises 22 and 23: plan, planned. */
public final class PlanTest {
    private static final Check CHECK = new Check();

    public static void main(String[] args) {
        refusals();
        noPieceAtAll();
        beyondTheLastDay();
        firstOfSeveral();
        firstOfSeveralForTwo();
        otherHerdsStay();
        weatherOfTheDays();
        restInSteps();
        planned();
        planChangesNothing();
        CHECK.end();
    }

    private static GrazeBook common(int pieces, int grass, int full) {
        GrazeBook x = new GrazeBook();
        for (int p = 0; p < pieces; p++) {
            x.piece(grass, full, 0, true);
        }
        x.owner(0);
        x.right(0, 0, 10000, 720, 0);
        x.herd(0, 0, 1);
        x.herd(0, 1, 1);
        x.herd(0, 2, 1);
        return x;
    }

    private static void refusals() {
        GrazeBook x = common(2, 0, 10);
        CHECK.refused(x, "plan(-1, 0, 9, 1)", () -> x.plan(-1, 0, 9, 1), -1);
        CHECK.refused(x, "plan(-1, -1, 1, 1)", () -> x.plan(-1, -1, 1, 1), -1);
        CHECK.refused(x, "plan(3, -1, 1, 1)", () -> x.plan(3, -1, 1, 1), -1);
        CHECK.refused(x, "plan(0, 3, 1, 1)", () -> x.plan(0, 3, 1, 1), -1);
        CHECK.refused(x, "plan(0, -2, 1, 1)", () -> x.plan(0, -2, 1, 1), -1);
        CHECK.refused(x, "plan(0, 0, 1, 1)", () -> x.plan(0, 0, 1, 1), -1);
        CHECK.refused(x, "plan(0, -1, 0, 1)", () -> x.plan(0, -1, 0, 1), -2);
        CHECK.refused(x, "plan(0, -1, 5, 1)", () -> x.plan(0, -1, 5, 1), -2);
        CHECK.refused(x, "plan(0, 1, 0, 1)", () -> x.plan(0, 1, 0, 1), -2);
        CHECK.refused(x, "plan(0, 1, 3, 1)", () -> x.plan(0, 1, 3, 1), -2);
        CHECK.refused(x, "plan(0, 1, 2, 0)", () -> x.plan(0, 1, 2, 0), -2);
        CHECK.refused(x, "plan(0, 1, 2, 11)", () -> x.plan(0, 1, 2, 11), -2);
        CHECK.refused(x, "plan(0, 1, most, most)", () -> x.plan(0, 1, Integer.MAX_VALUE, Integer.MAX_VALUE), -2);
        CHECK.due("planned(0, 0), all were refused", x.planned(0, 0), -9);
        CHECK.due("plan(0, -1, 4, 10)", x.plan(0, -1, 4, 10) >= 0 ? 1 : 0, 1);
        CHECK.due("plan(0, 1, 2, 10)", x.plan(0, 1, 2, 10) >= 0 ? 1 : 0, 1);
    }

    private static void noPieceAtAll() {
        GrazeBook x = common(0, 0, 10);
        CHECK.refused(x, "plan(0, -1, 1, 1)", () -> x.plan(0, -1, 1, 1), -3);
    }

    private static void beyondTheLastDay() {
        GrazeBook x = common(1, 0, 10);
        x.pass(700);
        CHECK.due("plan(0, 1, 2, 10) to day 720", x.plan(0, 1, 2, 10), 65 + 19 * 74);
        CHECK.refused(x, "plan(0, -1, 3, 7)", () -> x.plan(0, -1, 3, 7), -6);
        x.pass(20);
        CHECK.refused(x, "plan(0, -1, 1, 1) on day 720", () -> x.plan(0, -1, 1, 1), -6);
        x.rest(0, 721);
        CHECK.refused(x, "it rests, too", () -> x.plan(0, -1, 1, 1), -3);
    }

    private static void firstOfSeveral() {
        GrazeBook x = common(6, 1000, 1000);
        CHECK.due("plan(0, -1, 4, 2)", x.plan(0, -1, 4, 2), 0);
        for (int step = 0; step < 4; step++) {
            CHECK.due("planned(" + step + ", 0)", x.planned(step, 0), 0);
        }
        // Grass for two days on each: all six but two have to be eaten, the lesser ones first.
        GrazeBook y = common(6, 60, 60);
        CHECK.due("plan(0, -1, 4, 2)", y.plan(0, -1, 4, 2), 0);
        int[] want = {0, 1, 2, 3};
        for (int step = 0; step < 4; step++) {
            CHECK.due("planned(" + step + ", 0)", y.planned(step, 0), want[step]);
        }
    }

    private static void firstOfSeveralForTwo() {
        // 30 and 45 a day: on 0 there is enough for one of them, so the second has to go elsewhere.
        GrazeBook x = new GrazeBook();
        x.piece(30, 60, 0, true);
        x.piece(90, 90, 0, true);
        x.piece(90, 90, 0, true);
        x.owner(0);
        x.herd(0, 0, 1);
        x.herd(0, 1, 1);
        CHECK.due("plan(0, 1, 1, 1)", x.plan(0, 1, 1, 1), 0);
        CHECK.due("planned(0, 0)", x.planned(0, 0), 0);
        CHECK.due("planned(0, 1)", x.planned(0, 1), 1);
        CHECK.due("plan(1, 0, 1, 1)", x.plan(1, 0, 1, 1), 0);
        CHECK.due("planned(0, 0)", x.planned(0, 0), 1);
        CHECK.due("planned(0, 1)", x.planned(0, 1), 0);
        CHECK.due("plan(0, 1, 2, 1)", x.plan(0, 1, 2, 1), 0);
        CHECK.due("planned(0, 0)", x.planned(0, 0), 0);
        CHECK.due("planned(0, 1)", x.planned(0, 1), 1);
        CHECK.due("planned(1, 0)", x.planned(1, 0), 1);
        CHECK.due("planned(1, 1)", x.planned(1, 1), 2);
    }

    private static void otherHerdsStay() {
        GrazeBook x = common(2, 100, 100);
        x.put(1, 0);
        // On 0 herd 1 eats 45 a day. With 2 (6) there 1 lacks on the second day: herd 1's, by the greater rest.
        CHECK.due("plan(0, 2, 1, 2)", x.plan(0, 2, 1, 2), 0);
        CHECK.due("planned(0, 0)", x.planned(0, 0), 1);
        CHECK.due("planned(0, 1)", x.planned(0, 1), 0);
        // Alone with herd 1: 75 of 100, then 26 for 75: 49 lack, 19.6 of them (20, the greater rest) its own.
        x.rest(1, 1);
        CHECK.due("plan(0, -1, 1, 2)", x.plan(0, -1, 1, 2), 20);
        CHECK.due("planned(0, 0)", x.planned(0, 0), 0);
        // What is planned is not where it was.
        CHECK.due("plan(1, -1, 1, 2)", x.plan(1, -1, 1, 2), 0);
        x.put(0, 0);
        CHECK.due("plan(0, -1, 1, 2), out as well as off", x.plan(0, -1, 1, 2), 20);
    }

    private static void weatherOfTheDays() {
        GrazeBook x = common(1, 0, 1000);
        x.piece(0, 1000, 0, false);
        x.pass(4);
        x.rate(3, 3, 20);
        x.rate(8, 1, 10);
        x.weather(4, 3, 3);
        x.weather(5, 3, 3);
        x.weather(6, 8, 1);
        // Grass 4 on both; 24 on day 5, 10 on day 6, 1 on day 7: 6, 20, 29 lack.
        CHECK.due("plan(0, -1, 1, 3)", x.plan(0, -1, 1, 3), 55);
        CHECK.due("planned(0, 0)", x.planned(0, 0), 0);
        x.herd(0, 0, 100);
        x.drive(3, 0);
        x.rest(0, 5);
        // On 1 the same lack, and 30 more each day without water.
        CHECK.due("plan(0, -1, 1, 3) on dry ground", x.plan(0, -1, 1, 3), 55 + 90);
        CHECK.due("planned(0, 0)", x.planned(0, 0), 1);
        // 3000 parts: 24 of grass, then 30 trodden of 0 and 10 grown, then 1; and 3000 more each day.
        CHECK.due("plan(3, -1, 1, 3)", x.plan(3, -1, 1, 3), 9000 - 35 + 9000);
    }

    private static void restInSteps() {
        GrazeBook x = common(2, 1000, 1000);
        x.rest(0, 2);
        CHECK.due("plan(0, -1, 3, 1)", x.plan(0, -1, 3, 1), 0);
        CHECK.due("planned(0, 0), day 1", x.planned(0, 0), 1);
        CHECK.due("planned(1, 0), day 2", x.planned(1, 0), 1);
        CHECK.due("planned(2, 0), day 3", x.planned(2, 0), 0);
        x.rest(1, 1);
        CHECK.refused(x, "both rest on day 1", () -> x.plan(0, -1, 1, 1), -3);
        x.rest(1, 0);
        CHECK.due("one rests until now", x.plan(0, 1, 1, 1), 0);
        CHECK.due("planned(0, 0)", x.planned(0, 0), 1);
        CHECK.due("planned(0, 1)", x.planned(0, 1), 1);
        x.rest(1, 9);
        CHECK.refused(x, "the first step has none", () -> x.plan(0, -1, 2, 2), -3);
        x.rest(0, 0);
        CHECK.due("only the first day of a step is asked", x.plan(0, 1, 2, 5), 0);
        // A piece that rests now, but not from the first day on.
        GrazeBook y = common(1, 1000, 1000);
        y.rest(0, 0);
        CHECK.due("plan(0, -1, 1, 1)", y.plan(0, -1, 1, 1), 0);
        y.put(0, 0);
        y.pass(1);
        y.rest(0, 3);
        CHECK.refused(y, "it is there, and it rests", () -> y.plan(0, -1, 1, 1), -3);
        // A later step in which all rest can not be: who rests then rests now.
    }

    private static void planned() {
        GrazeBook x = common(2, 1000, 1000);
        CHECK.due("planned(0, 0), no plan yet", x.planned(0, 0), -9);
        x.rest(0, 5);
        x.plan(0, 1, 2, 1);
        CHECK.due("planned(0, 0)", x.planned(0, 0), 1);
        CHECK.due("planned(1, 1)", x.planned(1, 1), 1);
        CHECK.due("planned(2, 0)", x.planned(2, 0), -9);
        CHECK.due("planned(-1, 0)", x.planned(-1, 0), -9);
        CHECK.due("planned(0, 2)", x.planned(0, 2), -9);
        CHECK.due("planned(0, -1)", x.planned(0, -1), -9);
        CHECK.due("planned(most, 1)", x.planned(Integer.MAX_VALUE, 1), -9);
        x.plan(0, 0, 1, 1);
        x.plan(0, -1, 5, 1);
        x.rest(1, 5);
        x.plan(0, -1, 1, 1);
        CHECK.due("planned(1, 1), the later ones were refused", x.planned(1, 1), 1);
        x.rest(1, 0);
        x.plan(0, -1, 3, 1);
        CHECK.due("planned(2, 0)", x.planned(2, 0), 1);
        CHECK.due("planned(3, 0)", x.planned(3, 0), -9);
        CHECK.due("planned(0, 1), of one herd", x.planned(0, 1), -9);
        x.plan(0, 1, 1, 1);
        CHECK.due("planned(0, 1)", x.planned(0, 1), 1);
        CHECK.due("planned(1, 0)", x.planned(1, 0), -9);
        CHECK.due("refusals of answers -9", Check.refusals(x), 3);
    }

    private static void planChangesNothing() {
        GrazeBook x = common(3, 50, 200);
        x.put(0, 1);
        x.put(2, 1);
        x.plan(0, 1, 2, 10);
        CHECK.due("count(0)", x.count(0), 0);
        CHECK.due("count(6)", x.count(6), 150);
        CHECK.due("count(7)", x.count(7), 0);
        CHECK.due("count(8)", x.count(8), 0);
        CHECK.due("herdOf(0, 3)", x.herdOf(0, 3), 1);
        CHECK.due("herdOf(1, 3)", x.herdOf(1, 3), -1);
        CHECK.due("rightOf(0, 8)", x.rightOf(0, 8), -9);
    }
}
