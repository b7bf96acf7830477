/** The sentences of 'Terms' on strays, the pound and turns that name an edge: each has a test of its own. */
public final class PoundAndTurnEdgesTest {
    private static final Check CHECK = new Check();

    public static void main(String[] args) {
        strayByOnePart();
        strayEachHerdOfTheOwner();
        offFromThatDayOn();
        feeByDays();
        freedForItsFee();
        poundedAgain();
        soldOnThe31stDay();
        soldBehindTheLast();
        worthLessTheFee();
        feeIsItsWorthAtMost();
        soldManyAtOnce();
        lostStaysLost();
        turnsOfOneStep();
        turnsOfFourSteps();
        turnsOfTwoHerds();
        turnsOfTenDays();
        turnsToTheLastDay();
        turnsByTheYearsWeather();
        turnsWhereOthersAre();
        turnsAskNoRightsAndBears();
        turnsLeaveOutWhatRests();
        turnsByRestAsItStands();
        turnsWithoutWater();
        turnsOfTheLesserNumber();
        turnsOfTheLesserNumberForTwo();
        turnsChangeNothing();
        latestPlan();
        CHECK.end();
    }

    /** A herd out on a piece on day 1, whose owner has coins and so many parts of rights from then on. */
    private static GrazeBook out(int coins, int sort, int n, int parts) {
        GrazeBook x = new GrazeBook();
        x.piece(100000, 100000, 0, true);
        x.owner(coins);
        x.right(0, 0, 10000, 0, 0);
        if (parts > 0) {
            x.right(0, 0, parts, 720, 0);
        }
        x.herd(0, sort, n);
        x.put(0, 0);
        x.pass(1);
        return x;
    }

    private static void pass(GrazeBook x, int days) {
        if (days > 0) {
            x.pass(days);
        }
    }

    /** "a HERD that is on a PIECE and is not COVERED (its OWNER is not) may be POUNDED". */
    private static void strayByOnePart() {
        CHECK.due("29 parts for 30", out(0, 0, 1, 29).pound(0), 1);
        CHECK.due("30 parts for 30", out(0, 0, 1, 30).pound(0), -3);
        CHECK.due("no parts", out(0, 0, 1, 0).pound(0), 1);
        GrazeBook off = out(0, 0, 1, 0);
        off.drive(0, -1);
        CHECK.due("off", off.pound(0), -3);
    }

    private static void strayEachHerdOfTheOwner() {
        GrazeBook x = out(0, 0, 1, 36);
        x.herd(0, 2, 1);
        x.herd(0, 2, 1);
        x.put(1, 0);
        x.right(0, 0, 6, 1, 0);
        x.put(2, 0);
        CHECK.due("covered up to day 1", x.pound(2), -3);
        x.pass(1);
        CHECK.due("any of them, not the last alone", x.pound(1), 1);
        CHECK.due("the others are covered then", x.pound(2), -3);
        CHECK.due("the others are covered then", x.pound(0), -3);
    }

    /** "it is OFF, and in the POUND from that DAY on". */
    private static void offFromThatDayOn() {
        GrazeBook x = out(0, 0, 1, 0);
        x.pound(0);
        CHECK.due("off", x.herdOf(0, 3), -1);
        CHECK.due("in the pound", x.herdOf(0, 5), 1);
        CHECK.due("no herds there", x.pieceOf(0, 5), 0);
        CHECK.due("no parts out", x.ownerOf(0, 2), 0);
        CHECK.due("not lost", x.count(5), 1);
        int hunger = x.herdOf(0, 4);
        CHECK.due("no hunger there", x.pass(5), 0);
        CHECK.due("hunger so far stays", x.herdOf(0, 4), hunger);
    }

    /** "FEE: how many DAYS it is there (the first counts) times its beasts." */
    private static void feeByDays() {
        for (int n : new int[] {1, 7, 100}) {
            GrazeBook x = out(0, 2, n, 0);
            CHECK.due("not there", x.herdOf(0, 6), 0);
            x.pound(0);
            for (int days = 1; days <= 30; days++) {
                CHECK.due("day " + days + " of " + n, x.herdOf(0, 6), days * n);
                x.pass(1);
            }
            CHECK.due("sold", x.herdOf(0, 6), 0);
        }
    }

    /** "It is freed for its FEE (COINS of its OWNER; the REEVE's then)". */
    private static void freedForItsFee() {
        int[][] cases = {{11, 0, -5}, {12, 12, 12}, {13, 12, 12}, {0, 0, -5}};
        for (int[] c : cases) {
            GrazeBook x = out(c[0], 0, 4, 0);
            x.pound(0);
            x.pass(2);
            CHECK.due("free for 12 of " + c[0], x.free(0), c[2]);
            CHECK.due("coins of its owner", x.ownerOf(0, 0), c[0] - c[1]);
            CHECK.due("coins of the reeve", x.ownerOf(-1, 0), c[1]);
            CHECK.due("in the pound", x.herdOf(0, 5), c[2] < 0 ? 1 : 0);
            CHECK.due("off", x.herdOf(0, 3), -1);
        }
        GrazeBook most = out(100000, 2, 100, 0);
        most.pound(0);
        most.pass(29);
        CHECK.due("the greatest fee", most.free(0), 3000);
        CHECK.due("coins of the reeve", most.ownerOf(-1, 0), 3000);
    }

    private static void poundedAgain() {
        GrazeBook x = out(100, 0, 1, 0);
        x.pound(0);
        x.pass(20);
        CHECK.due("free", x.free(0), 21);
        x.right(0, 0, 30, 21, 0);
        CHECK.due("put", x.put(0, 0), 1);
        x.pass(1);
        CHECK.due("pound again", x.pound(0), 1);
        CHECK.due("its days count anew", x.herdOf(0, 6), 1);
        x.pass(29);
        CHECK.due("the 30th day", x.herdOf(0, 5), 1);
        x.pass(1);
        CHECK.due("the 31st day", x.herdOf(0, 5), 2);
    }

    /** "THE POUND: what is there for its 31st DAY is sold." */
    private static void soldOnThe31stDay() {
        GrazeBook x = out(0, 1, 1, 0);
        x.pound(0);
        for (int days = 1; days <= 30; days++) {
            CHECK.due("day " + days, x.herdOf(0, 5), 1);
            CHECK.due("its owner's coins on day " + days, x.ownerOf(0, 0), 0);
            x.pass(1);
        }
        CHECK.due("day 31", x.herdOf(0, 5), 2);
        CHECK.due("count(5)", x.count(5), 0);
        CHECK.due("its owner's coins", x.ownerOf(0, 0), 14);
        x.pass(31);
        CHECK.due("sold once", x.ownerOf(0, 0), 14);
        CHECK.due("sold once, the reeve", x.ownerOf(-1, 0), 31);
        GrazeBook atOnce = out(0, 1, 1, 0);
        atOnce.pound(0);
        atOnce.pass(200);
        CHECK.due("sold on its 31st day amid many", atOnce.ownerOf(-1, 0), 31);
    }

    /** Pounded on day 690 it is sold on day 720; on day 691, never. */
    private static void soldBehindTheLast() {
        for (int day = 690; day <= 691; day++) {
            GrazeBook x = out(0, 0, 1, 0);
            x.pass(day - 1);
            x.pound(0);
            x.pass(720 - day);
            CHECK.due("pounded on day " + day, x.herdOf(0, 5), day == 690 ? 2 : 1);
            CHECK.due("fee", x.herdOf(0, 6), day == 690 ? 0 : 30);
        }
    }

    /** "its worth (its PARTS) less the FEE (not below 0) goes to its OWNER's COINS". */
    private static void worthLessTheFee() {
        int[] ownersPerBeast = {0, 14, 0};
        int[] reevesPerBeast = {30, 31, 6};
        for (int sort = 0; sort < 3; sort++) {
            for (int n : new int[] {1, 3, 100}) {
                GrazeBook x = out(5, sort, n, 0);
                x.pound(0);
                x.pass(30);
                CHECK.due(n + " of sort " + sort + ", its owner", x.ownerOf(0, 0), 5 + n * ownersPerBeast[sort]);
                CHECK.due(n + " of sort " + sort + ", the reeve", x.ownerOf(-1, 0), n * reevesPerBeast[sort]);
            }
        }
    }

    /** "the FEE (its worth at most) to the REEVE's": coins of the owner pay nothing of it. */
    private static void feeIsItsWorthAtMost() {
        GrazeBook x = out(100000, 0, 1, 0);
        x.pound(0);
        x.pass(30);
        CHECK.due("its owner has what it had", x.ownerOf(0, 0), 100000);
        CHECK.due("the reeve has its worth", x.ownerOf(-1, 0), 30);
        GrazeBook y = out(100000, 1, 100, 0);
        y.pound(0);
        y.pass(30);
        CHECK.due("more coins than one could begin with", y.ownerOf(0, 0), 101400);
    }

    private static void soldManyAtOnce() {
        GrazeBook x = new GrazeBook();
        x.piece(0, 10, 0, true);
        x.owner(0);
        x.owner(0);
        for (int h = 0; h < 20; h++) {
            x.herd(h % 2, 1, 1);
        }
        for (int o = 0; o < 2; o++) {
            x.right(0, o, 10000, 0, 0);
        }
        for (int h = 0; h < 20; h++) {
            x.put(h, 0);
        }
        x.pass(1);
        for (int h = 0; h < 20; h++) {
            x.pound(h);
        }
        x.pass(30);
        CHECK.due("all lost", x.count(5), 0);
        CHECK.due("owner 0", x.ownerOf(0, 0), 140);
        CHECK.due("owner 1", x.ownerOf(1, 0), 140);
        CHECK.due("the reeve", x.ownerOf(-1, 0), 620);
        CHECK.due("none of them counts as not made", x.herd(0, 0, 1), -6);
    }

    /** "sold it is LOST". */
    private static void lostStaysLost() {
        GrazeBook x = out(1000, 1, 2, 0);
        x.pound(0);
        x.pass(30);
        x.right(0, 0, 10000, 720, 0);
        CHECK.due("put", x.put(0, 0), -3);
        CHECK.due("drive", x.drive(0, 0), -3);
        CHECK.due("drive off", x.drive(0, -1), -3);
        CHECK.due("pound", x.pound(0), -3);
        CHECK.due("free", x.free(0), -3);
        CHECK.due("plan", x.plan(0, -1, 1, 1), -3);
        int[] want = {0, 1, 2, -1, 0, 2, 0};
        for (int what = 0; what < want.length; what++) {
            CHECK.due("herdOf(0, " + what + ")", x.herdOf(0, what), want[what]);
        }
    }

    /** Pieces told as {grass, full, water}; a cow and a horse, off. */
    private static GrazeBook turning(int[]... pieces) {
        GrazeBook x = new GrazeBook();
        for (int[] piece : pieces) {
            x.piece(piece[0], piece[1], 0, piece[2] == 1);
        }
        x.owner(0);
        x.herd(0, 0, 1);
        x.herd(0, 1, 1);
        return x;
    }

    private static void planned(String plan, GrazeBook x, int width, int... want) {
        for (int slot = 0; slot < want.length; slot++) {
            CHECK.due(plan + ", step " + slot / width + " of " + slot % width,
                x.planned(slot / width, slot % width), want[slot]);
        }
        CHECK.due(plan + ", no further step", x.planned(want.length / width, 0), -9);
    }

    /** "STEPS (1 or 2; of one HERD 1 .. 4) of L DAYS each (1 .. 10)": one step of one day. */
    private static void turnsOfOneStep() {
        GrazeBook x = turning(new int[] {28, 99, 1}, new int[] {29, 99, 1});
        CHECK.due("30 of 29 and of 30", x.plan(0, -1, 1, 1), 0);
        planned("the one with enough", x, 1, 1);
        GrazeBook one = turning(new int[] {10, 99, 1});
        CHECK.due("one piece", one.plan(0, -1, 1, 1), 19);
        planned("one piece", one, 1, 0);
    }

    private static void turnsOfFourSteps() {
        // Each has enough for one day; what was eaten there is not there a second time.
        GrazeBook x = turning(new int[] {29, 99, 1}, new int[] {28, 99, 1}, new int[] {27, 99, 1}, new int[] {26, 99, 1});
        CHECK.due("four steps on four pieces", x.plan(0, -1, 4, 1), 0);
        planned("four steps on four pieces", x, 1, 0, 1, 2, 3);
        GrazeBook one = turning(new int[] {29, 99, 1});
        CHECK.due("four steps on one piece", one.plan(0, -1, 4, 1), 3 * 29);
        planned("four steps on one piece", one, 1, 0, 0, 0, 0);
        GrazeBook six = new GrazeBook();
        for (int p = 0; p < 6; p++) {
            six.piece(p < 2 ? 0 : 60, 60, 0, true);
        }
        six.owner(0);
        six.herd(0, 0, 1);
        CHECK.due("four steps on six pieces", six.plan(0, -1, 4, 2), 0);
        planned("four steps on six pieces", six, 1, 2, 3, 4, 5);
    }

    /** "each HERD is on one PIECE in each STEP", both on one if that is best. */
    private static void turnsOfTwoHerds() {
        GrazeBook x = turning(new int[] {0, 10, 1}, new int[] {74, 99, 1});
        CHECK.due("both on one", x.plan(0, 1, 1, 1), 0);
        planned("both on one", x, 2, 1, 1);
        // 45 and 30 of grass that do not grow to more: the horse has to go to 0.
        GrazeBook y = turning(new int[] {45, 45, 1}, new int[] {30, 30, 1});
        CHECK.due("each on its own", y.plan(0, 1, 1, 1), 0);
        planned("each on its own", y, 2, 1, 0);
        CHECK.due("told the other way round", y.plan(1, 0, 1, 1), 0);
        planned("told the other way round", y, 2, 0, 1);
        // Two steps: all that can be eaten of 150 is 45, 30 and 1 that grows on each, by several plans.
        CHECK.due("two steps", y.plan(0, 1, 2, 1), 150 - 77);
        planned("two steps", y, 2, 0, 1, 0, 1);
    }

    private static void turnsOfTenDays() {
        GrazeBook x = turning(new int[] {290, 999, 1}, new int[] {291, 999, 1});
        CHECK.due("10 days: 300 of 290 and 10 that grow", x.plan(0, -1, 1, 10), 0);
        planned("10 days", x, 1, 0);
        GrazeBook y = turning(new int[] {289, 999, 1}, new int[] {290, 999, 1});
        CHECK.due("10 days: 1 lacks on the first", y.plan(0, -1, 1, 10), 0);
        planned("10 days", y, 1, 1);
        GrazeBook z = turning(new int[] {280, 999, 1});
        CHECK.due("10 days on one", z.plan(0, -1, 1, 10), 10);
        // The grass goes on growing while the herd is elsewhere, too.
        GrazeBook w = turning(new int[] {0, 30, 1}, new int[] {0, 30, 1});
        w.rate(0, 0, 100);
        CHECK.due("two steps of 10 days", w.plan(0, -1, 2, 10), 540 - 27);
        planned("two steps of 10 days", w, 1, 0, 1);
    }

    /** "It would go beyond DAY 720: -6." */
    private static void turnsToTheLastDay() {
        for (int steps = 1; steps <= 4; steps++) {
            for (int days : new int[] {1, 10}) {
                GrazeBook x = turning(new int[] {0, 10, 1});
                x.pass(720 - steps * days);
                int hunger = 30 * steps * days - Math.min(10, 720 - steps * days + 1) - (steps * days - 1);
                CHECK.due(steps + " steps of " + days + " to day 720", x.plan(0, -1, steps, days), hunger);
                x.pass(1);
                CHECK.due(steps + " steps of " + days + " to day 721", x.plan(0, -1, steps, days), -6);
            }
        }
    }

    /** "WEATHER as the YEAR has it", from the day behind now on, and not of a day behind the last. */
    private static void turnsByTheYearsWeather() {
        GrazeBook x = turning(new int[] {0, 1000, 1});
        x.rate(1, 0, 10);
        x.rate(8, 0, 20);
        x.weather(0, 1, 0);
        x.weather(1, 1, 0);
        x.weather(3, 8, 0);
        x.weather(4, 1, 0);
        CHECK.due("3 days: 10, 1 and 20", x.plan(0, -1, 1, 3), 20 + 29 + 10);
        CHECK.due("3 steps of a day", x.plan(0, -1, 3, 1), 20 + 29 + 10);
        x.pass(1);
        CHECK.due("from day 1 on, 10 there: 1, 20 and 10", x.plan(0, -1, 1, 3), 19 + 10 + 20);
        // 3000 parts tread 30 of 35 with rain 8.
        GrazeBook y = turning(new int[] {35, 1000, 1});
        y.herd(0, 0, 100);
        y.weather(1, 8, 0);
        CHECK.due("trodden by the herd of the plan", y.plan(2, -1, 1, 1), 3000 - 6);
    }

    /** "other HERDS where they are": they eat, tread and share the hunger, and what they hunger is not asked. */
    private static void turnsWhereOthersAre() {
        GrazeBook x = turning(new int[] {100, 100, 1}, new int[] {59, 60, 1});
        x.right(0, 0, 10000, 720, 0);
        x.herd(0, 0, 2);
        x.put(2, 0);
        CHECK.due("where nobody is", x.plan(0, -1, 1, 2), 0);
        planned("where nobody is", x, 1, 1);
        // On 0: 100 for 90, then 11 for 90: 79 lack, 26.33 of them its own (60 parts: 52.67, by the greater rest).
        x.rest(1, 5);
        CHECK.due("with the other", x.plan(0, -1, 1, 2), 26);
        // On 0: 100 for 105, 5 lack, 2.14 of them its own.
        CHECK.due("a horse that is off", x.plan(1, -1, 1, 1), 2);
        x.put(1, 0);
        CHECK.due("it is not counted twice if it is there", x.plan(1, -1, 1, 1), 2);
    }

    /** "RIGHTS and BEARS not asked". */
    private static void turnsAskNoRightsAndBears() {
        GrazeBook x = turning(new int[] {500, 500, 1});
        CHECK.due("no right", x.count(4), 0);
        CHECK.due("it bears nothing", x.pieceOf(0, 2), 0);
        CHECK.due("plan", x.plan(0, 1, 2, 1), 0);
    }

    /** "no PIECE taken that rests on the first DAY of the STEP (the first one's is the DAY behind now". */
    private static void turnsLeaveOutWhatRests() {
        // 0 is best, and rests up to a day; steps of 2 days begin on days 1, 3, 5 and 7.
        int[][] cases = {{0, 0, 0, 0, 0}, {1, 1, 0, 0, 0}, {2, 1, 0, 0, 0}, {3, 1, 1, 0, 0}, {4, 1, 1, 0, 0}, {5, 1, 1, 1, 0},
            {6, 1, 1, 1, 0}, {7, 1, 1, 1, 1}, {740, 1, 1, 1, 1}};
        for (int[] c : cases) {
            GrazeBook x = turning(new int[] {1000, 1000, 1}, new int[] {0, 1000, 1});
            x.rest(0, c[0]);
            x.plan(0, -1, 4, 2);
            planned("rest to " + c[0], x, 1, c[1], c[2], c[3], c[4]);
        }
        for (int rest = 0; rest <= 4; rest++) {
            GrazeBook x = turning(new int[] {1000, 1000, 1}, new int[] {0, 1000, 1});
            x.rest(0, rest);
            x.plan(0, 1, 2, 3);
            int first = rest >= 1 ? 1 : 0;
            int second = rest >= 4 ? 1 : 0;
            planned("two herds, rest to " + rest, x, 2, first, first, second, second);
        }
        GrazeBook there = turning(new int[] {1000, 1000, 1}, new int[] {0, 1000, 1});
        there.right(0, 0, 10000, 720, 0);
        there.put(0, 0);
        there.rest(0, 1);
        there.plan(0, -1, 1, 1);
        planned("nor the one where it is", there, 1, 1);
    }

    /** "REST as it stands now": -3 if all rest on the first day of a step. */
    private static void turnsByRestAsItStands() {
        for (int now = 0; now <= 2; now++) {
            for (int rest = 2; rest <= 4; rest++) {
                GrazeBook x = turning(new int[] {1000, 1000, 1}, new int[] {1000, 1000, 1});
                pass(x, now);
                x.rest(0, rest);
                x.rest(1, rest);
                CHECK.due("day " + now + ", rest to " + rest, x.plan(0, -1, 2, 1), rest > now ? -3 : 0);
            }
        }
        GrazeBook y = turning(new int[] {1000, 1000, 1}, new int[] {1000, 1000, 1});
        y.rest(0, 740);
        CHECK.due("one rests", y.plan(0, 1, 2, 5), 0);
        planned("one rests", y, 2, 1, 1, 1, 1);
    }

    private static void turnsWithoutWater() {
        GrazeBook x = turning(new int[] {1000, 1000, 0}, new int[] {0, 10, 1});
        CHECK.due("29 of hunger are less than 30 of thirst", x.plan(0, -1, 1, 1), 29);
        planned("hunger rather than thirst", x, 1, 1);
        x.rest(1, 1);
        CHECK.due("thirst", x.plan(0, -1, 1, 1), 30);
        GrazeBook y = turning(new int[] {0, 10, 0});
        CHECK.due("hunger and thirst", y.plan(0, 1, 1, 1), 74 + 75);
    }

    /** "of several plans the first one (the first STEP's PIECE .., the lesser number)". */
    private static void turnsOfTheLesserNumber() {
        GrazeBook x = turning(new int[] {500, 500, 1}, new int[] {500, 500, 1}, new int[] {500, 500, 1});
        x.plan(0, -1, 4, 1);
        planned("all alike", x, 1, 0, 0, 0, 0);
        // One day's grass on 0 and enough on 1: 0 may be first, or last; the first plan has it first.
        GrazeBook y = turning(new int[] {30, 30, 1}, new int[] {500, 500, 1});
        y.plan(0, -1, 3, 1);
        planned("0 once, first", y, 1, 0, 1, 1);
        // On 0 there is enough only from the second day on.
        GrazeBook z = turning(new int[] {28, 500, 1}, new int[] {500, 500, 1});
        z.plan(0, -1, 3, 1);
        planned("0 once, second", z, 1, 1, 0, 1);
    }

    /** ".. of the first HERD, then of the second one, then the next STEP's". */
    private static void turnsOfTheLesserNumberForTwo() {
        GrazeBook x = turning(new int[] {500, 500, 1}, new int[] {500, 500, 1});
        x.plan(0, 1, 2, 1);
        planned("all alike", x, 2, 0, 0, 0, 0);
        // 45 on 0: either may have it, once; the first herd of the first step does.
        GrazeBook y = turning(new int[] {45, 45, 1}, new int[] {500, 500, 1});
        y.plan(0, 1, 2, 1);
        planned("the first herd first", y, 2, 0, 1, 1, 1);
        y.plan(1, 0, 2, 1);
        planned("whichever is told first", y, 2, 0, 1, 1, 1);
        // 44 on 0, 45 on the second day: the cow may have it at once (30, and 15 are left), the horse only then.
        GrazeBook z = turning(new int[] {43, 45, 1}, new int[] {500, 500, 1});
        z.plan(1, 0, 2, 1);
        planned("the horse not, the cow first", z, 2, 1, 0, 1, 1);
    }

    private static void turnsChangeNothing() {
        GrazeBook x = Recipes.busy();
        GrazeBook y = Recipes.busy();
        y.plan(0, 1, 2, 10);
        y.plan(4, -1, 4, 10);
        for (int what = 0; what <= 16; what++) {
            CHECK.due("count(" + what + ")", y.count(what), x.count(what));
        }
        for (int p = 0; p < 3; p++) {
            for (int what = 0; what <= 6; what++) {
                CHECK.due("pieceOf(" + p + ", " + what + ")", y.pieceOf(p, what), x.pieceOf(p, what));
            }
        }
        for (int h = 0; h < 7; h++) {
            for (int what = 0; what <= 6; what++) {
                CHECK.due("herdOf(" + h + ", " + what + ")", y.herdOf(h, what), x.herdOf(h, what));
            }
        }
        for (int r = 0; r < 11; r++) {
            CHECK.due("rightOf(" + r + ", 8)", y.rightOf(r, 8), x.rightOf(r, 8));
        }
        CHECK.due("pass(50)", y.pass(50), x.pass(50));
        CHECK.due("count(6)", y.count(6), x.count(6));
    }

    /** planned: "in the latest plan() that was not refused"; "-9 if there is none such". */
    private static void latestPlan() {
        GrazeBook x = turning(new int[] {0, 10, 1}, new int[] {1000, 1000, 1});
        CHECK.due("refused", x.plan(0, 0, 1, 1), -1);
        CHECK.due("no plan yet", x.planned(0, 0), -9);
        x.plan(0, 1, 2, 3);
        planned("the first plan", x, 2, 1, 1, 1, 1);
        x.plan(9, -1, 1, 1);
        x.plan(0, -1, 5, 1);
        x.rest(0, 9);
        x.rest(1, 9);
        x.plan(0, -1, 1, 1);
        planned("three refused behind it", x, 2, 1, 1, 1, 1);
        x.rest(0, 0);
        x.plan(1, -1, 1, 1);
        planned("the second plan", x, 1, 0);
        CHECK.due("of one herd", x.planned(0, 1), -9);
        x.pass(10);
        x.put(0, 0);
        planned("days later", x, 1, 0);
    }
}
