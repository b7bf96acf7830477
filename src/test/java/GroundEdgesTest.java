/** The sentences of 'Terms' on ground, beasts and days that name an edge: each has a test of its own. */
public final class GroundEdgesTest {
    private static final Check CHECK = new Check();

    public static void main(String[] args) {
        daysAtMost();
        partsOfBeasts();
        restAtFirst();
        restsOnItsLastDay();
        grassNeverAboveFull();
        growthCut();
        growthAtLeastOne();
        growthByTheDaysWeather();
        noWeatherBehindTheYear();
        troddenByRain();
        troddenByParts();
        troddenNotBelowZero();
        troddenFirst();
        eatenAsMuchAsThereIs();
        eatenAtZero();
        hungerOfOneHerd();
        hungerByGreatestRest();
        hungerToTheLesserNumber();
        hungerOfTwentyHerds();
        hungerIsSummedUp();
        noWater();
        overAtBears();
        overAsFewAsMustBe();
        overAll();
        overByOrder();
        CHECK.end();
    }

    /** A piece, an owner with rights for all, the herds told as {sort, how many}, all of them out on the piece. */
    private static GrazeBook grazed(int grass, int full, int bears, int[]... herds) {
        GrazeBook x = new GrazeBook();
        x.piece(grass, full, bears, true);
        x.owner(0);
        for (int r = 0; r < 10; r++) {
            x.right(0, 0, 10000, 720, 0);
        }
        for (int h = 0; h < herds.length; h++) {
            x.herd(0, herds[h][0], herds[h][1]);
            x.put(h, 0);
        }
        return x;
    }

    private static int[] cows(int n) {
        return new int[] {0, n};
    }

    private static int[] horses(int n) {
        return new int[] {1, n};
    }

    private static int[] sheep(int n) {
        return new int[] {2, n};
    }

    private static void hungers(String when, GrazeBook x, int... want) {
        for (int h = 0; h < want.length; h++) {
            CHECK.due(when + ": herdOf(" + h + ", 4)", x.herdOf(h, 4), want[h]);
        }
    }

    /** "DAYS go on from 0 (720 at most)." */
    private static void daysAtMost() {
        GrazeBook x = new GrazeBook();
        CHECK.due("the first day", x.count(0), 0);
        x.pass(719);
        CHECK.due("count(0)", x.count(0), 719);
        CHECK.due("pass(2) would be day 721", x.pass(2), -6);
        CHECK.due("count(0)", x.count(0), 719);
        CHECK.due("pass(1)", x.pass(1), 0);
        CHECK.due("count(0)", x.count(0), 720);
        CHECK.due("pass(1) would be day 721", x.pass(1), -6);
    }

    /** "a cow is 30, a horse 45, a sheep 6 (SORTS 0, 1, 2)"; "how many (1 .. 100)". */
    private static void partsOfBeasts() {
        int[] parts = {30, 45, 6};
        for (int sort = 0; sort < 3; sort++) {
            for (int n : new int[] {1, 2, 99, 100}) {
                GrazeBook x = grazed(0, 1, 0, new int[] {sort, n});
                CHECK.due("parts of " + n + " of sort " + sort, x.pieceOf(0, 4), n * parts[sort]);
                CHECK.due("parts out", x.ownerOf(0, 2), n * parts[sort]);
                CHECK.due("how many", x.herdOf(0, 2), n);
            }
        }
        GrazeBook none = grazed(0, 1, 0);
        CHECK.due("no parts", none.pieceOf(0, 4), 0);
        CHECK.due("no herds", none.pieceOf(0, 5), 0);
        CHECK.due("no parts out", none.ownerOf(0, 2), 0);
    }

    /** "REST (the last DAY on which it rests; -1 at first)". */
    private static void restAtFirst() {
        GrazeBook x = grazed(500, 500, 0);
        x.herd(0, 0, 1);
        CHECK.due("pieceOf(0, 3)", x.pieceOf(0, 3), -1);
        CHECK.due("put on day 0", x.put(0, 0), 1);
        GrazeBook y = grazed(500, 500, 0);
        CHECK.due("cut on day 0", y.cut(0), 400);
    }

    /** "A PIECE rests as long as DAY is not behind REST (HERDS may not go onto it)." */
    private static void restsOnItsLastDay() {
        for (int days = 0; days <= 4; days++) {
            int waited = days;
            boolean rests = waited <= 3;
            CHECK.due("put after " + waited + " days of 3", resting(waited).put(1, 1), rests ? -3 : 1);
            CHECK.due("drive after " + waited + " days of 3", resting(waited).drive(0, 1), rests ? -3 : 0);
            CHECK.due("cut after " + waited + " days of 3", resting(waited).cut(1), rests ? -3 : 400);
            boolean restsTomorrow = waited + 1 <= 3;
            GrazeBook x = resting(waited);
            x.plan(0, -1, 1, 1);
            CHECK.due("plan after " + waited + " days of 3", x.planned(0, 0), restsTomorrow ? 0 : 1);
        }
        // A herd that is there when the rest begins stays, eats, and may be driven off; but not back.
        GrazeBook x = resting(0);
        x.rest(0, 1);
        CHECK.due("it stays", x.herdOf(0, 3), 0);
        x.pass(1);
        CHECK.due("it eats", x.pieceOf(0, 6), 1);
        CHECK.due("it goes off", x.drive(0, -1), 0);
        CHECK.due("it may not go back on the last day", x.put(0, 0), -3);
        x.pass(1);
        CHECK.due("it goes back behind it", x.put(0, 0), 1);
    }

    /** Herd 0 is on 0 and hungers there, herd 1 is off; piece 1 rests up to day 3. */
    private static GrazeBook resting(int days) {
        GrazeBook x = grazed(0, 20, 0, cows(1));
        x.piece(500, 500, 0, true);
        x.herd(0, 0, 1);
        x.rest(1, 3);
        for (int i = 0; i < days; i++) {
            x.pass(1);
        }
        return x;
    }

    /** "GRASS never grows above it"; "(to FULL at most)". */
    private static void grassNeverAboveFull() {
        for (int rate : new int[] {0, 1, 500, 1000}) {
            for (int grass : new int[] {1000, 999, 998}) {
                GrazeBook x = grazed(grass, 1000, 0);
                x.rate(0, 0, rate);
                x.pass(1);
                int want = Math.min(1000, grass + Math.max(1, rate));
                CHECK.due("grass " + grass + ", rate " + rate, x.pieceOf(0, 0), want);
                x.pass(5);
                CHECK.due("later, too", x.pieceOf(0, 0), 1000);
            }
        }
        GrazeBook most = grazed(0, 100000, 0);
        most.rate(0, 0, 1000);
        most.pass(1);
        CHECK.due("from 0 to 100000 in a day", most.pieceOf(0, 0), 100000);
        GrazeBook one = grazed(0, 1, 0);
        one.pass(1);
        CHECK.due("full 1", one.pieceOf(0, 0), 1);
        one.pass(1);
        CHECK.due("full 1, full", one.pieceOf(0, 0), 1);
    }

    /** "RATE .. times FULL, divided by 1000 (cut)". */
    private static void growthCut() {
        int[][] cases = {{1999, 1, 1}, {2000, 1, 2}, {2001, 1, 2}, {2999, 1, 2}, {3000, 1, 3}, {999, 2, 1}, {1000, 2, 2},
            {1001, 999, 999}, {1002, 999, 1000}, {99999, 7, 699}, {100000, 7, 700}, {99999, 999, 99899}};
        for (int[] c : cases) {
            GrazeBook x = grazed(0, c[0], 0);
            x.rate(0, 0, c[1]);
            x.pass(1);
            CHECK.due("full " + c[0] + ", rate " + c[1], x.pieceOf(0, 0), c[2]);
        }
    }

    /** "at least by 1, if it is below FULL". */
    private static void growthAtLeastOne() {
        int[][] cases = {{999, 1, 1}, {999, 0, 1}, {100000, 0, 1}, {1, 0, 1}, {1, 999, 1}, {500, 1, 1}, {500, 2, 1},
            {1000, 1, 1}};
        for (int[] c : cases) {
            GrazeBook x = grazed(0, c[0], 0);
            x.rate(0, 0, c[1]);
            x.pass(1);
            CHECK.due("full " + c[0] + ", rate " + c[1], x.pieceOf(0, 0), c[2]);
        }
    }

    /** "RAIN and WARMTH of the DAY as the YEAR has them": DAY is 1 more first. */
    private static void growthByTheDaysWeather() {
        GrazeBook x = grazed(0, 1000, 0);
        x.rate(0, 9, 10);
        x.rate(7, 0, 100);
        x.rate(0, 0, 2);
        x.weather(0, 7, 0);
        x.weather(1, 0, 9);
        x.weather(3, 7, 0);
        int[] want = {10, 12, 112, 114};
        for (int day = 1; day <= 4; day++) {
            x.pass(1);
            CHECK.due("grass on day " + day, x.pieceOf(0, 0), want[day - 1]);
        }
        x.weather(5, 0, 9);
        x.weather(5, 7, 0);
        x.pass(1);
        CHECK.due("of two weathers of a day the later one", x.pieceOf(0, 0), 214);
    }

    /** "WEATHER of a DAY (0 .. 720)": the last day has its own, too, and so has the day ahead of it. */
    private static void noWeatherBehindTheYear() {
        GrazeBook x = grazed(0, 100000, 0);
        x.rate(0, 1, 10);
        x.weather(719, 0, 1);
        x.weather(720, 0, 1);
        x.pass(718);
        CHECK.due("day 718", x.pieceOf(0, 0), 718);
        x.pass(1);
        CHECK.due("day 719", x.pieceOf(0, 0), 1718);
        x.pass(1);
        CHECK.due("day 720", x.pieceOf(0, 0), 2718);
    }

    /** "With RAIN 8 or 9 each PIECE on which a HERD is has 1 less GRASS for each 100 PARTS there". */
    private static void troddenByRain() {
        for (int rain = 0; rain <= 9; rain++) {
            for (int warmth : new int[] {0, 9}) {
                GrazeBook x = grazed(500, 1000, 0, cows(10));
                x.piece(500, 1000, 0, true);
                x.weather(1, rain, warmth);
                x.pass(1);
                int trodden = rain >= 8 ? 3 : 0;
                CHECK.due("rain " + rain, x.pieceOf(0, 0), 500 - trodden + 1 - 300);
                CHECK.due("no herd, rain " + rain, x.pieceOf(1, 0), 501);
            }
        }
    }

    /** "1 less GRASS for each 100 PARTS there (cut)": the parts of all the herds there together. */
    private static void troddenByParts() {
        int[][] cases = {{16, 0}, {33, 1}, {17, 1}, {34, 2}, {49, 2}, {50, 3}, {100, 6}};
        for (int[] c : cases) {
            GrazeBook x = grazed(900, 1000, 0, sheep(c[0]));
            x.weather(1, 8, 0);
            x.pass(1);
            CHECK.due(6 * c[0] + " parts", x.pieceOf(0, 0), 900 - c[1] + 1 - 6 * c[0]);
        }
        GrazeBook below = grazed(900, 1000, 0, horses(1), sheep(9));
        below.weather(1, 9, 0);
        below.pass(1);
        CHECK.due("99 parts of two herds", below.pieceOf(0, 0), 901 - 99);
        GrazeBook above = grazed(900, 1000, 0, horses(1), horses(1), sheep(1), sheep(1));
        above.weather(1, 9, 0);
        above.pass(1);
        CHECK.due("102 parts of four herds", above.pieceOf(0, 0), 900 - 1 + 1 - 102);
        GrazeBook just = grazed(900, 1000, 0, cows(10), horses(20));
        just.weather(1, 9, 0);
        just.pass(1);
        CHECK.due("1200 parts", just.herdOf(0, 4) + just.herdOf(1, 4), 1200 - 889);
        GrazeBook three = grazed(900, 1000, 0, cows(10));
        three.weather(1, 9, 0);
        three.pass(1);
        CHECK.due("300 parts, just so", three.pieceOf(0, 0), 900 - 3 + 1 - 300);
    }

    /** "(not below 0): TRODDEN". */
    private static void troddenNotBelowZero() {
        for (int grass = 0; grass <= 4; grass++) {
            GrazeBook x = grazed(grass, 1000, 0, cows(10));
            x.weather(1, 8, 0);
            x.pass(1);
            int left = Math.max(0, grass - 3) + 1;
            CHECK.due("grass " + grass + ", 3 trodden", x.pieceOf(0, 6), left);
            CHECK.due("what lacks", x.herdOf(0, 4), 300 - left);
        }
    }

    /** "first": what is trodden is off ahead of the growth, so that it may grow again even where it was full. */
    private static void troddenFirst() {
        GrazeBook x = grazed(1000, 1000, 0, cows(10));
        x.weather(1, 8, 0);
        x.rate(8, 0, 2);
        x.pass(1);
        CHECK.due("3 trodden, 2 grown", x.pieceOf(0, 0), 999 - 300);
        GrazeBook y = grazed(1000, 1000, 0, cows(10));
        y.weather(1, 8, 0);
        y.rate(8, 0, 3);
        y.pass(1);
        CHECK.due("3 trodden, 3 grown", y.pieceOf(0, 0), 1000 - 300);
        GrazeBook z = grazed(1000, 1000, 0, cows(10));
        z.weather(1, 8, 0);
        z.rate(8, 0, 4);
        z.pass(1);
        CHECK.due("3 trodden, to full at most", z.pieceOf(0, 0), 1000 - 300);
    }

    /** "HERDS on a PIECE eat a measure for each PART: as much as there is; what lacks is HUNGER". */
    private static void eatenAsMuchAsThereIs() {
        // It grows by 1 ahead of the eating, so that 30 parts find one more than there was.
        int[][] cases = {{28, 0, 29, 1}, {29, 0, 30, 0}, {30, 1, 30, 0}, {0, 0, 1, 29}};
        for (int[] c : cases) {
            GrazeBook x = grazed(c[0], 1000, 0, cows(1));
            CHECK.due("grass " + c[0] + ": pass(1)", x.pass(1), c[3]);
            CHECK.due("grass " + c[0] + ": left", x.pieceOf(0, 0), c[1]);
            CHECK.due("grass " + c[0] + ": eaten", x.pieceOf(0, 6), c[2]);
            CHECK.due("grass " + c[0] + ": all eaten", x.count(8), c[2]);
            CHECK.due("grass " + c[0] + ": all hunger", x.count(7), c[3]);
        }
        GrazeBook none = grazed(5, 1000, 0);
        CHECK.due("no herd: pass(1)", none.pass(1), 0);
        CHECK.due("no herd: eaten", none.pieceOf(0, 6), 0);
    }

    /** "as much as there is", day after day at 0: what grew that day. */
    private static void eatenAtZero() {
        GrazeBook x = grazed(0, 5000, 0, cows(1));
        x.rate(0, 0, 1);
        CHECK.due("10 days of 5", x.pass(10), 250);
        CHECK.due("left", x.pieceOf(0, 0), 0);
        CHECK.due("eaten", x.pieceOf(0, 6), 50);
        x.rate(0, 0, 6);
        CHECK.due("10 days of 30", x.pass(10), 0);
        CHECK.due("left", x.pieceOf(0, 0), 0);
        x.rate(0, 0, 7);
        CHECK.due("a day of 35", x.pass(1), 0);
        CHECK.due("left", x.pieceOf(0, 0), 5);
    }

    /** "shared by HERDS in proportion to their PARTS": one herd has it all. */
    private static void hungerOfOneHerd() {
        GrazeBook x = grazed(0, 10, 0, sheep(100));
        x.herd(0, 0, 1);
        x.pass(1);
        hungers("one herd", x, 599, 0);
    }

    /** "(each its share cut, then one more each those with the greatest rest". */
    private static void hungerByGreatestRest() {
        // 30 + 45 + 6 = 81 parts, 1 of grass: 80 lack; 29.63, 44.44, 5.93.
        GrazeBook x = grazed(0, 10, 0, cows(1), horses(1), sheep(1));
        x.pass(1);
        hungers("80 of 81", x, 30, 44, 6);
        // 11 of grass: 70 lack; 25.93, 38.89, 5.19.
        GrazeBook y = grazed(10, 100, 0, cows(1), horses(1), sheep(1));
        y.pass(1);
        hungers("70 of 81", y, 26, 39, 5);
        // 54 of grass: 27 lack; 10, 15, 2: nothing is left over.
        GrazeBook z = grazed(53, 100, 0, cows(1), horses(1), sheep(1));
        z.pass(1);
        hungers("27 of 81", z, 10, 15, 2);
        // 80 of grass: 1 lacks; 0.37, 0.56, 0.07.
        GrazeBook one = grazed(79, 100, 0, cows(1), horses(1), sheep(1));
        one.pass(1);
        hungers("1 of 81", one, 0, 1, 0);
        // 79 of grass: 2 lack; 0.74, 1.11, 0.15: the rest of the second is small.
        GrazeBook two = grazed(78, 100, 0, cows(1), horses(1), sheep(1));
        two.pass(1);
        hungers("2 of 81", two, 1, 1, 0);
    }

    /** "of several the lesser number)": not the one that went there first, nor last. */
    private static void hungerToTheLesserNumber() {
        GrazeBook x = new GrazeBook();
        x.piece(0, 10, 0, true);
        x.owner(0);
        x.owner(0);
        x.right(0, 0, 1000, 720, 0);
        x.right(0, 1, 1000, 720, 0);
        for (int h = 0; h < 4; h++) {
            x.herd(h % 2, 2, 1);
        }
        x.put(2, 0);
        x.put(0, 0);
        x.put(3, 0);
        x.put(1, 0);
        // 24 parts, 1 of grass: 23 lack; 5.75 each: three of them one more.
        x.pass(1);
        hungers("23 of 24", x, 6, 6, 6, 5);
        x.drive(0, -1);
        // 18 parts, 1 of grass: 17 lack; 5.67 each: two of them one more.
        x.pass(1);
        hungers("17 of 18", x, 6, 12, 12, 10);
        x.rate(0, 0, 200);
        // 18 parts, 2 of grass: 16 lack; 5.33 each: one of them one more.
        x.pass(1);
        hungers("16 of 18", x, 6, 18, 17, 15);
    }

    /** As many herds as there may be, as many parts as there may be. */
    private static void hungerOfTwentyHerds() {
        int[][] herds = new int[20][];
        for (int h = 0; h < 20; h++) {
            herds[h] = horses(100);
        }
        GrazeBook x = grazed(0, 100000, 10000, herds);
        // 90000 parts, 100 of grass: 89900 lack, 4495 each.
        x.rate(0, 0, 1);
        CHECK.due("pass(1)", x.pass(1), 89900);
        for (int h = 0; h < 20; h++) {
            CHECK.due("herdOf(" + h + ", 4)", x.herdOf(h, 4), 4495);
        }
        // 1 of grass: 89999 lack, 4499.95 each.
        GrazeBook y = grazed(0, 999, 0, herds);
        CHECK.due("pass(1)", y.pass(1), 89999);
        for (int h = 0; h < 20; h++) {
            CHECK.due("herdOf(" + h + ", 4)", y.herdOf(h, 4), h < 19 ? 4500 : 4499);
        }
    }

    /** "HUNGER of each is summed up." */
    private static void hungerIsSummedUp() {
        GrazeBook x = grazed(0, 10, 0, cows(1), sheep(1));
        x.piece(0, 10, 0, true);
        CHECK.due("pass(3)", x.pass(3), 105);
        int first = x.herdOf(0, 4);
        int second = x.herdOf(1, 4);
        CHECK.due("both", first + second, 105);
        x.drive(1, -1);
        CHECK.due("pass(2)", x.pass(2), 58);
        CHECK.due("the one that is out", x.herdOf(0, 4), first + 58);
        CHECK.due("the one that is off", x.herdOf(1, 4), second);
        x.drive(0, 1);
        CHECK.due("pass(1) on the other piece", x.pass(1), 24);
        CHECK.due("herdOf(0, 4)", x.herdOf(0, 4), first + 58 + 24);
        CHECK.due("count(7)", x.count(7), 105 + 58 + 24);
    }

    /** "HERDS on a PIECE without WATER: HUNGER is more by their PARTS." */
    private static void noWater() {
        GrazeBook x = new GrazeBook();
        x.piece(36, 100, 0, false);
        x.piece(100, 100, 0, true);
        x.owner(0);
        x.right(0, 0, 1000, 720, 0);
        x.herd(0, 0, 1);
        x.herd(0, 2, 1);
        x.herd(0, 2, 1);
        x.put(0, 0);
        x.put(1, 0);
        x.put(2, 1);
        CHECK.due("enough to eat, nothing to drink", x.pass(1), 36);
        hungers("day 1", x, 30, 6, 0);
        // 2 of grass for 36 parts: 34 lack, 28.33 and 5.67; then 36 more.
        CHECK.due("neither", x.pass(1), 34 + 36);
        hungers("day 2", x, 30 + 28 + 30, 6 + 6 + 6, 0);
        x.drive(0, -1);
        x.drive(1, -1);
        CHECK.due("nobody there", x.pass(1), 0);
    }

    /** "as few as there must be for the PARTS of the others on it to be BEARS at most": at BEARS none, one above it one. */
    private static void overAtBears() {
        int[][] cases = {{36, -9}, {35, 1}, {37, -9}, {30, 1}, {29, 1}, {0, 1}, {10000, -9}};
        for (int[] c : cases) {
            GrazeBook x = grazed(0, 1, c[0], cows(1), sheep(1));
            CHECK.due("36 parts where it bears " + c[0], x.over(0, 0), c[1]);
        }
        GrazeBook none = grazed(0, 1, 0);
        CHECK.due("no herd where it bears none", none.over(0, 0), -9);
    }

    private static void overAsFewAsMustBe() {
        // In order: 30, 6, 45, 6, 60 parts: 147.
        int[] bears = {147, 146, 87, 86, 81, 80, 36, 35, 30, 29, 0};
        int[] over = {0, 1, 1, 2, 2, 3, 3, 4, 4, 5, 5};
        for (int k = 0; k < bears.length; k++) {
            GrazeBook x = grazed(0, 1, bears[k], cows(1), sheep(1), horses(1), sheep(1), cows(2));
            for (int i = 0; i <= 5; i++) {
                CHECK.due("bears " + bears[k] + ": over(0, " + i + ")", x.over(0, i), i < over[k] ? 4 - i : -9);
            }
        }
    }

    /** As many as there may be. */
    private static void overAll() {
        int[][] herds = new int[20][];
        for (int h = 0; h < 20; h++) {
            herds[h] = cows(1);
        }
        GrazeBook x = grazed(0, 1, 29, herds);
        CHECK.due("over(0, 0)", x.over(0, 0), 19);
        CHECK.due("over(0, 19)", x.over(0, 19), 0);
        CHECK.due("over(0, 20)", x.over(0, 20), -9);
        GrazeBook y = grazed(0, 1, 30, herds);
        CHECK.due("over(0, 18)", y.over(0, 18), 1);
        CHECK.due("over(0, 19)", y.over(0, 19), -9);
    }

    /** "when it went onto it (an order, over all)"; drive: "from one to another, with the order of now". */
    private static void overByOrder() {
        GrazeBook x = grazed(0, 1, 0, cows(1), cows(1), cows(1));
        x.piece(0, 1, 0, true);
        x.drive(0, 1);
        x.drive(1, 1);
        x.drive(0, 0);
        CHECK.due("it came back last", x.over(0, 0), 0);
        CHECK.due("then the one that stayed", x.over(0, 1), 2);
        CHECK.due("no more", x.over(0, 2), -9);
        x.drive(2, -1);
        x.put(2, 0);
        CHECK.due("off and on again", x.over(0, 0), 2);
        CHECK.due("it was there by then", x.over(0, 1), 0);
        CHECK.due("refused, it changes no order", x.drive(0, 0), -3);
        CHECK.due("as it was", x.over(0, 0), 2);
        CHECK.due("the other piece", x.over(1, 0), 1);
        CHECK.due("no more there", x.over(1, 1), -9);
    }
}
