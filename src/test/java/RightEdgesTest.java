/** The sentences of 'Terms' on rights, their use, their cover and hay that name an edge: each has a test of its own. */
public final class RightEdgesTest {
    private static final Check CHECK = new Check();

    public static void main(String[] args) {
        inForceFromFirstToLast();
        inForceUpToTheLastDay();
        goneIsNotInForce();
        lentDoesNotCount();
        lentCountsAgainWhenOver();
        lentCountsAgainWhenGone();
        usedOnlyInForce();
        usedOnlyWithPartsThatCount();
        usedOnlyWithAHerdOfItsOwner();
        usedByKind();
        usedByWhatIsLent();
        lapsedOnThe100thDay();
        lapsedOnlyInForce();
        lapsedAfterUse();
        usedOnThatDayToo();
        lapsedEachByItself();
        lapsesFoundFirst();
        coverJustSo();
        coverOfWalks();
        coverOfLeazes();
        coverOfTiedAndLent();
        coverCutAsOneLikes();
        coverOfWhatIsOut();
        hayAbove100();
        hayRest();
        hayShares();
        hayOfWalksAndLeazes();
        hayOfRightsInForce();
        hayOfTenOwners();
        CHECK.end();
    }

    /** Two pieces with grass, three owners, a house of owner 0, and herds: a cow and a sheep of each owner, all off. */
    private static GrazeBook common() {
        GrazeBook x = new GrazeBook();
        x.piece(50000, 100000, 0, true);
        x.piece(50000, 100000, 0, true);
        for (int o = 0; o < 3; o++) {
            x.owner(0);
        }
        x.house(0);
        for (int o = 0; o < 3; o++) {
            x.herd(o, 0, 1);
            x.herd(o, 2, 1);
        }
        return x;
    }

    /** Puts a herd out whether its owner has rights or not. */
    private static void putAnyhow(GrazeBook x, int herd, int piece) {
        int owner = x.herdOf(herd, 0);
        x.right(0, owner, 10000, x.count(0), 0);
        x.put(herd, piece);
    }

    /** "so many PARTS, from a DAY to a DAY (both too); each is in force on these DAYS". */
    private static void inForceFromFirstToLast() {
        GrazeBook x = common();
        x.pass(5);
        x.right(0, 0, 7, 5, 0);
        x.right(0, 0, 8, 6, 0);
        x.right(0, 0, 9, 7, 0);
        int[] held = {24, 17, 9, 0};
        for (int day = 5; day <= 8; day++) {
            for (int r = 0; r < 3; r++) {
                boolean so = day <= 5 + r;
                CHECK.due("right " + r + " on day " + day, x.rightOf(r, 6), so ? 1 : 0);
                CHECK.due("its parts", x.rightOf(r, 2), so ? 7 + r : 0);
                CHECK.due("it is not gone", x.rightOf(r, 5), 0);
                CHECK.due("its first", x.rightOf(r, 3), 5);
                CHECK.due("its last", x.rightOf(r, 4), 5 + r);
            }
            CHECK.due("held on day " + day, x.ownerOf(0, 3), held[day - 5]);
            CHECK.due("count(4) on day " + day, x.count(4), 8 - day);
            x.pass(1);
        }
    }

    private static void inForceUpToTheLastDay() {
        GrazeBook x = common();
        x.pass(700);
        x.right(0, 0, 7, 720, 0);
        x.right(0, 0, 7, 719, 0);
        x.pass(20);
        CHECK.due("to 720 on day 720", x.rightOf(0, 6), 1);
        CHECK.due("to 719 on day 720", x.rightOf(1, 6), 0);
        CHECK.due("right on day 720", x.right(0, 0, 7, 720, 0), 2);
        CHECK.due("in force on day 720", x.rightOf(2, 6), 1);
    }

    /** ".. if it is not GONE." */
    private static void goneIsNotInForce() {
        GrazeBook x = common();
        x.right(0, 0, 30, 720, 0);
        x.pass(100);
        CHECK.due("gone", x.rightOf(0, 5), 1);
        CHECK.due("not in force", x.rightOf(0, 6), 0);
        CHECK.due("no parts", x.rightOf(0, 2), 0);
        CHECK.due("no parts of its owner", x.ownerOf(0, 3), 0);
        CHECK.due("count(4)", x.count(4), 0);
        CHECK.due("it covers nothing", x.put(0, 0), -5);
        CHECK.due("its kind stays", x.rightOf(0, 0), 0);
        CHECK.due("its owner stays", x.rightOf(0, 1), 0);
        CHECK.due("its last day stays", x.rightOf(0, 4), 720);
    }

    /** "PARTS of a RIGHT that are LENT out of it do not count in it while the LENT one is in force." */
    private static void lentDoesNotCount() {
        GrazeBook x = common();
        x.right(0, 0, 30, 720, 0);
        CHECK.due("none lent", x.rightOf(0, 2), 30);
        x.lend(0, 1, 1, 720);
        CHECK.due("one lent", x.rightOf(0, 2), 29);
        CHECK.due("put(0, 0) wants 30", x.put(0, 0), -5);
        x.lend(0, 2, 28, 720);
        CHECK.due("all but one lent", x.rightOf(0, 2), 1);
        x.lend(0, 1, 1, 720);
        CHECK.due("all lent", x.rightOf(0, 2), 0);
        CHECK.due("in force all the same", x.rightOf(0, 6), 1);
        CHECK.due("no more to lend", x.lend(0, 1, 1, 720), -5);
        CHECK.due("held by 0", x.ownerOf(0, 3), 0);
        CHECK.due("held by 1", x.ownerOf(1, 3), 2);
        CHECK.due("held by 2", x.ownerOf(2, 3), 28);
        CHECK.due("sold, what is lent stays so", x.sell(0, 2), 1);
        CHECK.due("held by 2", x.ownerOf(2, 3), 28);
        CHECK.due("held by 1", x.ownerOf(1, 3), 2);
    }

    private static void lentCountsAgainWhenOver() {
        GrazeBook x = common();
        x.right(0, 0, 30, 720, 0);
        x.lend(0, 1, 10, 2);
        x.lend(0, 1, 5, 3);
        int[] counts = {15, 15, 15, 25, 30};
        for (int day = 0; day <= 4; day++) {
            CHECK.due("day " + day, x.rightOf(0, 2), counts[day]);
            CHECK.due("held by 1 on day " + day, x.ownerOf(1, 3), 30 - counts[day]);
            x.pass(1);
        }
        CHECK.due("it can be lent again", x.lend(0, 2, 30, 720), 3);
    }

    private static void lentCountsAgainWhenGone() {
        GrazeBook x = common();
        x.right(0, 0, 36, 720, 0);
        x.lend(0, 1, 10, 720);
        putAnyhow(x, 1, 0);
        x.pass(99);
        CHECK.due("the lent one counts", x.rightOf(0, 2), 26);
        x.pass(1);
        CHECK.due("the lent one is gone", x.rightOf(1, 5), 1);
        CHECK.due("all count again", x.rightOf(0, 2), 36);
        CHECK.due("nothing of the taker's", x.ownerOf(1, 3), 0);
    }

    /** "A RIGHT is USED on a DAY, as it passes, if it is in force". */
    private static void usedOnlyInForce() {
        GrazeBook x = common();
        x.right(0, 0, 30, 3, 0);
        x.put(0, 0);
        CHECK.due("no day has passed", x.rightOf(0, 8), -9);
        int[] used = {1, 2, 3, 3, 3};
        for (int i = 0; i < used.length; i++) {
            x.pass(1);
            CHECK.due("on day " + (i + 1), x.rightOf(0, 8), used[i]);
        }
        GrazeBook y = common();
        y.right(0, 0, 30, 0, 0);
        y.put(0, 0);
        y.pass(1);
        CHECK.due("of day 0 alone", y.rightOf(0, 8), -9);
    }

    /** ".. has PARTS that count". */
    private static void usedOnlyWithPartsThatCount() {
        GrazeBook x = common();
        x.right(0, 0, 30, 720, 0);
        x.put(0, 0);
        x.lend(0, 1, 29, 3);
        x.pass(1);
        CHECK.due("one counts", x.rightOf(0, 8), 1);
        x.lend(0, 1, 1, 3);
        x.pass(2);
        CHECK.due("none counts", x.rightOf(0, 8), 1);
        x.pass(1);
        CHECK.due("all count", x.rightOf(0, 8), 4);
    }

    /** ".. and its OWNER has a HERD on a PIECE". */
    private static void usedOnlyWithAHerdOfItsOwner() {
        GrazeBook x = common();
        x.right(0, 0, 30, 720, 0);
        x.right(0, 1, 30, 720, 0);
        x.put(2, 0);
        x.pass(1);
        CHECK.due("herds of others alone", x.rightOf(0, 8), -9);
        CHECK.due("that other's", x.rightOf(1, 8), 1);
        x.put(0, 1);
        x.pass(1);
        CHECK.due("one of its own", x.rightOf(0, 8), 2);
        x.drive(0, -1);
        x.pass(1);
        CHECK.due("off", x.rightOf(0, 8), 2);
        x.sell(0, 1);
        x.pass(1);
        CHECK.due("sold to one who has a herd out", x.rightOf(0, 8), 4);
        x.sell(1, 0);
        x.pass(1);
        CHECK.due("sold to one who has none", x.rightOf(1, 8), 4);
    }

    /** ".. to which they could be given out": a walk to sheep, a leaze to beasts there, others to any. */
    private static void usedByKind() {
        // Herds 0 (a cow) and 1 (a sheep), each on piece 0 or 1; rights: gross, tied, walk, leaze of 0, leaze of 1.
        int[][] used = {{1, 1, 0, 1, 0}, {1, 1, 0, 0, 1}, {1, 1, 1, 1, 0}, {1, 1, 1, 0, 1}};
        for (int k = 0; k < used.length; k++) {
            GrazeBook x = common();
            x.right(0, 0, 1, 720, 0);
            x.right(1, 0, 1, 720, 0);
            x.right(2, 0, 1, 720, 0);
            x.right(3, 0, 1, 720, 0);
            x.right(3, 0, 1, 720, 1);
            putAnyhow(x, k / 2, k % 2);
            x.pass(1);
            for (int r = 0; r < 5; r++) {
                CHECK.due("herd " + k / 2 + " on " + k % 2 + ", right " + r, x.rightOf(r, 8), used[k][r] == 1 ? 1 : -9);
            }
        }
        GrazeBook moved = common();
        moved.right(1, 0, 30, 720, 0);
        moved.put(0, 0);
        moved.move(0, 1);
        moved.pass(1);
        CHECK.due("tied, the house is another's", moved.rightOf(0, 8), -9);
        moved.put(2, 0);
        moved.pass(1);
        CHECK.due("tied, that other has one out", moved.rightOf(0, 8), 2);
    }

    /** "or if one that is LENT out of it is USED." */
    private static void usedByWhatIsLent() {
        GrazeBook x = common();
        x.right(0, 0, 30, 720, 0);
        x.lend(0, 1, 30, 5);
        x.pass(1);
        CHECK.due("neither", x.rightOf(0, 8), -9);
        x.put(2, 0);
        x.pass(1);
        CHECK.due("the lent one", x.rightOf(1, 8), 2);
        CHECK.due("and so its source, of which no part counts", x.rightOf(0, 8), 2);
        x.pass(3);
        CHECK.due("on its last day", x.rightOf(0, 8), 5);
        x.pass(1);
        CHECK.due("the lent one is over", x.rightOf(1, 8), 5);
        CHECK.due("and its source has no herd", x.rightOf(0, 8), 5);
        GrazeBook y = common();
        y.right(0, 0, 40, 720, 0);
        y.lend(0, 1, 10, 720);
        y.put(0, 0);
        y.pass(1);
        CHECK.due("the source", y.rightOf(0, 8), 1);
        CHECK.due("but not what is lent out of it", y.rightOf(1, 8), -9);
    }

    /** "A RIGHT in force whose first DAY is 100 DAYS ago or more". */
    private static void lapsedOnThe100thDay() {
        for (int first : new int[] {0, 1, 37}) {
            GrazeBook x = common();
            for (int i = 0; i < first; i++) {
                x.pass(1);
            }
            for (int kind = 0; kind <= 3; kind++) {
                x.right(kind, 0, 30, 720, 0);
            }
            x.lend(0, 1, 10, 720);
            x.pass(99);
            CHECK.due("99 days ago: lapsed", x.count(9), 0);
            CHECK.due("99 days ago: in force", x.count(4), 5);
            x.pass(1);
            CHECK.due("100 days ago: lapsed", x.count(9), 5);
            CHECK.due("100 days ago: in force", x.count(4), 0);
            for (int r = 0; r < 5; r++) {
                CHECK.due("right " + r + " is gone", x.rightOf(r, 5), 1);
                CHECK.due("right " + r + " was never used", x.rightOf(r, 8), -9);
            }
            x.pass(1);
            CHECK.due("each lapses once", x.count(9), 5);
        }
    }

    private static void lapsedOnlyInForce() {
        GrazeBook x = common();
        x.right(0, 0, 30, 99, 0);
        x.right(0, 0, 30, 100, 0);
        x.right(0, 0, 30, 101, 0);
        x.pass(120);
        CHECK.due("over the day before", x.rightOf(0, 5), 0);
        CHECK.due("on its last day", x.rightOf(1, 5), 1);
        CHECK.due("on its last but one", x.rightOf(2, 5), 1);
        CHECK.due("count(9)", x.count(9), 2);
    }

    /** ".. USED on none of the latest 100 DAYS": the day of its use falls out of them on the 100th day behind it. */
    private static void lapsedAfterUse() {
        for (int days : new int[] {1, 50, 150}) {
            GrazeBook x = common();
            x.right(0, 0, 30, 720, 0);
            x.put(0, 0);
            x.pass(days);
            x.drive(0, -1);
            x.pass(99);
            CHECK.due("99 days behind day " + days, x.rightOf(0, 5), 0);
            x.pass(1);
            CHECK.due("100 days behind day " + days, x.rightOf(0, 5), 1);
            CHECK.due("its last use stays", x.rightOf(0, 8), days);
        }
    }

    /** "(this one, too)": what is used on the very day on which it would lapse stays. */
    private static void usedOnThatDayToo() {
        GrazeBook x = common();
        x.right(0, 0, 30, 720, 0);
        x.pass(99);
        x.put(0, 0);
        x.pass(1);
        CHECK.due("used on day 100", x.rightOf(0, 5), 0);
        CHECK.due("rightOf(0, 8)", x.rightOf(0, 8), 100);
        x.drive(0, -1);
        x.pass(99);
        x.put(0, 0);
        x.pass(1);
        CHECK.due("used on day 200", x.rightOf(0, 5), 0);
        x.drive(0, -1);
        x.pass(100);
        CHECK.due("not used on day 300", x.rightOf(0, 5), 1);
    }

    private static void lapsedEachByItself() {
        GrazeBook x = common();
        x.right(0, 0, 30, 720, 0);
        x.right(2, 0, 30, 720, 0);
        x.right(0, 1, 30, 720, 0);
        x.put(0, 0);
        x.pass(40);
        x.right(0, 0, 30, 720, 0);
        x.drive(0, -1);
        x.pass(60);
        int[] gone = {0, 1, 1, 0};
        for (int r = 0; r < 4; r++) {
            CHECK.due("day 100: right " + r, x.rightOf(r, 5), gone[r]);
        }
        x.pass(40);
        int[] later = {1, 1, 1, 1};
        for (int r = 0; r < 4; r++) {
            CHECK.due("day 140: right " + r, x.rightOf(r, 5), later[r]);
        }
        CHECK.due("count(9)", x.count(9), 4);
    }

    /** "5 LAPSES (all that are USED are found first)": a lapse of this day gives no other right a use of this day. */
    private static void lapsesFoundFirst() {
        GrazeBook x = common();
        x.right(0, 0, 30, 720, 0);
        x.lend(0, 1, 30, 720);
        putAnyhow(x, 0, 0);
        x.pass(100);
        // Its owner has a herd out, but no part of the first right counts as long as the lent one is in force.
        CHECK.due("the lent one", x.rightOf(1, 5), 1);
        CHECK.due("its source", x.rightOf(0, 5), 1);
        CHECK.due("its source was never used", x.rightOf(0, 8), -9);
        GrazeBook y = common();
        y.right(0, 0, 30, 720, 0);
        y.pass(1);
        y.lend(0, 1, 30, 720);
        y.pass(98);
        putAnyhow(y, 2, 0);
        y.pass(1);
        CHECK.due("used by a lent one with a greater number", y.rightOf(0, 5), 0);
        CHECK.due("on this day", y.rightOf(0, 8), 100);
    }

    /** "if their PARTS can be given out to the RIGHTS in force that day". */
    private static void coverJustSo() {
        for (int parts = 29; parts <= 31; parts++) {
            GrazeBook x = common();
            x.right(0, 0, parts, 720, 0);
            CHECK.due(parts + " for a cow", x.put(0, 0), parts >= 30 ? 1 : -5);
            putAnyhow(x, 0, 0);
            x.pass(1);
            CHECK.due(parts + ": covered", x.covered(0), parts >= 30 ? 1 : 0);
            CHECK.due(parts + ": lacks", x.lacks(0), Math.max(0, 30 - parts));
            CHECK.due(parts + ": pound", x.pound(0), parts >= 30 ? -3 : 1);
        }
        GrazeBook none = common();
        CHECK.due("no rights, nothing out: covered", none.covered(0), 1);
        CHECK.due("no rights, nothing out: lacks", none.lacks(0), 0);
        putAnyhow(none, 0, 0);
        none.pass(1);
        CHECK.due("no rights: covered", none.covered(0), 0);
        CHECK.due("no rights: lacks", none.lacks(0), 30);
        CHECK.due("an owner without herds", none.covered(2), 1);
    }

    /** "WALKS to sheep alone". */
    private static void coverOfWalks() {
        for (int parts = 5; parts <= 7; parts++) {
            GrazeBook x = common();
            x.right(2, 0, parts, 720, 0);
            CHECK.due("a sheep under a walk of " + parts, x.put(1, 1), parts >= 6 ? 1 : -5);
        }
        GrazeBook x = common();
        x.right(2, 0, 10000, 720, 0);
        CHECK.due("a cow under a walk", x.put(0, 0), -5);
        x.herd(0, 1, 1);
        CHECK.due("a horse under a walk", x.put(6, 0), -5);
        CHECK.due("a sheep on any piece", x.put(1, 1), 1);
    }

    /** "LEAZES to beasts on that PIECE alone". */
    private static void coverOfLeazes() {
        for (int parts = 35; parts <= 37; parts++) {
            GrazeBook x = common();
            x.right(3, 0, parts, 720, 1);
            CHECK.due("a sheep on the other piece", x.put(1, 0), -5);
            CHECK.due("a cow on the other piece", x.put(0, 0), -5);
            CHECK.due("a cow there", x.put(0, 1), 1);
            CHECK.due("a sheep as well, of " + parts, x.put(1, 1), parts >= 36 ? 1 : -5);
        }
    }

    /** "others to any". */
    private static void coverOfTiedAndLent() {
        GrazeBook x = common();
        x.right(1, 0, 36, 720, 0);
        CHECK.due("tied: a cow", x.put(0, 0), 1);
        CHECK.due("tied: a sheep elsewhere", x.put(1, 1), 1);
        x.move(0, 1);
        CHECK.due("the house is another's", x.lacks(0), 36);
        CHECK.due("who may now", x.put(2, 0), 1);
        x.right(0, 2, 36, 720, 0);
        x.lend(1, 0, 36, 720);
        CHECK.due("lent: a cow and a sheep", x.lacks(0), 0);
        CHECK.due("lent: nothing left for the lender", x.put(5, 0), -5);
    }

    /** "PARTS may be cut as one likes (a HERD's to several RIGHTS)": and lacks() is the least that can be. */
    private static void coverCutAsOneLikes() {
        GrazeBook x = common();
        for (int r = 0; r < 30; r++) {
            x.right(0, 0, 1, 720, 0);
        }
        CHECK.due("a cow under thirty rights of 1", x.put(0, 0), 1);
        GrazeBook y = common();
        y.right(2, 0, 2, 720, 0);
        y.right(3, 0, 3, 720, 0);
        y.right(0, 0, 1, 720, 0);
        CHECK.due("a sheep under three kinds", y.put(1, 0), 1);
        // The leaze is to go to the cow, as the sheep have a walk, and the gross right to what is left of both.
        GrazeBook z = common();
        z.right(3, 0, 20, 720, 0);
        z.right(2, 0, 5, 720, 0);
        z.right(0, 0, 11, 720, 0);
        CHECK.due("a cow", z.put(0, 0), 1);
        CHECK.due("a sheep as well: 36 parts under 36", z.put(1, 0), 1);
        z.drive(1, 1);
        CHECK.due("the sheep elsewhere", z.lacks(0), 0);
        z.drive(0, 1);
        CHECK.due("both elsewhere", z.lacks(0), 20);
        z.drive(1, 0);
        CHECK.due("the sheep under the leaze alone", z.lacks(0), 19);
    }

    /** "its HERDS that are on PIECES": not those that are off, in the pound, or lost. */
    private static void coverOfWhatIsOut() {
        GrazeBook x = common();
        x.right(0, 0, 30, 720, 0);
        x.put(0, 0);
        CHECK.due("one off", x.lacks(0), 0);
        putAnyhow(x, 1, 1);
        x.pass(1);
        CHECK.due("both out", x.lacks(0), 6);
        CHECK.due("one is pounded", x.pound(1), 1);
        CHECK.due("one in the pound", x.lacks(0), 0);
        CHECK.due("parts out", x.ownerOf(0, 2), 30);
        x.pass(30);
        CHECK.due("one lost", x.herdOf(1, 5), 2);
        CHECK.due("one lost: lacks", x.lacks(0), 0);
    }

    /** "all its GRASS but 100 (if it has more) is HAY, GRASS is 100 then". */
    private static void hayAbove100() {
        int[][] cases = {{0, 0, 0}, {1, 0, 1}, {99, 0, 99}, {100, 0, 100}, {101, 1, 100}, {102, 2, 100},
            {100000, 99900, 100}};
        for (int[] c : cases) {
            GrazeBook x = new GrazeBook();
            x.piece(c[0], 100000, 0, true);
            CHECK.due("cut of " + c[0], x.cut(0), c[1]);
            CHECK.due("grass behind a cut of " + c[0], x.pieceOf(0, 0), c[2]);
            CHECK.due("hay of the reeve", x.ownerOf(-1, 1), c[1]);
            CHECK.due("rest behind a cut of " + c[0], x.pieceOf(0, 3), 20);
            CHECK.due("nothing is eaten", x.pieceOf(0, 6), 0);
        }
    }

    /** "it rests 20 DAYS more (from now: REST is DAY and 20)". */
    private static void hayRest() {
        GrazeBook x = common();
        x.pass(7);
        x.rest(0, 7);
        x.pass(1);
        x.cut(0);
        CHECK.due("cut on day 8", x.pieceOf(0, 3), 28);
        x.pass(20);
        CHECK.due("cut on day 28", x.cut(0), -3);
        x.pass(1);
        CHECK.due("cut on day 29, grass", x.cut(0), 21);
        CHECK.due("cut on day 29, rest", x.pieceOf(0, 3), 49);
        x.pass(691);
        CHECK.due("day 720", x.count(0), 720);
        x.cut(0);
        CHECK.due("cut on day 720", x.pieceOf(0, 3), 740);
        CHECK.due("the other piece does not rest", x.pieceOf(1, 3), -1);
    }

    /** ".. in whole measures, each its part cut; the rest is the REEVE's. Without such RIGHTS all is the REEVE's." */
    private static void hayShares() {
        // Hay, parts of owners 0 and 1, what 0, 1 and the reeve have of it.
        int[][] cases = {{1, 1, 1, 0, 0, 1}, {2, 1, 1, 1, 1, 0}, {3, 1, 1, 1, 1, 1}, {3, 1, 2, 1, 2, 0}, {5, 1, 2, 1, 3, 1},
            {100, 1, 10000, 0, 99, 1}, {9999, 1, 9999, 0, 9998, 1}, {10000, 1, 9999, 1, 9999, 0}, {0, 5, 5, 0, 0, 0},
            {7, 3, 0, 7, 0, 0}, {7, 0, 3, 0, 7, 0}, {7, 1, 0, 7, 0, 0}, {7, 0, 1, 0, 7, 0}, {7, 0, 0, 0, 0, 7}};
        for (int[] c : cases) {
            GrazeBook x = new GrazeBook();
            x.piece(c[0] + 100, 100000, 0, true);
            x.owner(0);
            x.owner(0);
            for (int o = 0; o < 2; o++) {
                if (c[1 + o] > 0) {
                    x.right(0, o, c[1 + o], 720, 0);
                }
            }
            String of = c[0] + " for " + c[1] + " and " + c[2];
            CHECK.due(of, x.cut(0), c[0]);
            CHECK.due(of + ", owner 0", x.ownerOf(0, 1), c[3]);
            CHECK.due(of + ", owner 1", x.ownerOf(1, 1), c[4]);
            CHECK.due(of + ", the reeve", x.ownerOf(-1, 1), c[5]);
            CHECK.due("coins", x.ownerOf(-1, 0) + x.ownerOf(0, 0) + x.ownerOf(1, 0), 0);
        }
    }

    /** "(WALKS and LEAZES for other PIECES left out)". */
    private static void hayOfWalksAndLeazes() {
        GrazeBook x = new GrazeBook();
        x.piece(200, 1000, 0, true);
        x.piece(200, 1000, 0, true);
        x.piece(200, 1000, 0, true);
        x.owner(0);
        x.owner(0);
        x.owner(0);
        x.right(2, 0, 10000, 720, 0);
        x.right(3, 1, 10000, 720, 1);
        CHECK.due("a walk and a leaze elsewhere", x.cut(0), 100);
        CHECK.due("all is the reeve's", x.ownerOf(-1, 1), 100);
        CHECK.due("a leaze there", x.cut(1), 100);
        CHECK.due("all is its owner's", x.ownerOf(1, 1), 100);
        x.right(0, 2, 10000, 720, 0);
        CHECK.due("a gross right, and a leaze elsewhere", x.cut(2), 100);
        CHECK.due("all is the gross right's", x.ownerOf(2, 1), 100);
        CHECK.due("nothing for a walk", x.ownerOf(0, 1), 0);
    }

    private static void hayOfRightsInForce() {
        GrazeBook x = common();
        x.right(0, 0, 10, 1, 0);
        x.right(1, 0, 10, 2, 0);
        x.right(0, 1, 20, 2, 0);
        x.lend(2, 2, 5, 1);
        x.lend(2, 2, 5, 2);
        x.pass(1);
        // 20 of 0, 10 of 1, 10 lent to 2.
        CHECK.due("cut(0) on their last day", x.cut(0), 49901);
        CHECK.due("owner 0", x.ownerOf(0, 1), 24950);
        CHECK.due("owner 1", x.ownerOf(1, 1), 12475);
        CHECK.due("owner 2", x.ownerOf(2, 1), 12475);
        CHECK.due("the reeve", x.ownerOf(-1, 1), 1);
        x.pass(1);
        // 10 of 0, 15 of 1, 5 lent to 2; 49902 of hay.
        CHECK.due("cut(1) behind the last day of two", x.cut(1), 49902);
        CHECK.due("owner 0", x.ownerOf(0, 1), 24950 + 16634);
        CHECK.due("owner 1", x.ownerOf(1, 1), 12475 + 24951);
        CHECK.due("owner 2", x.ownerOf(2, 1), 12475 + 8317);
        CHECK.due("the reeve", x.ownerOf(-1, 1), 1);
    }

    /** As many owners and rights as there may be. */
    private static void hayOfTenOwners() {
        GrazeBook x = new GrazeBook();
        x.piece(100000, 100000, 0, true);
        for (int o = 0; o < 10; o++) {
            x.owner(0);
        }
        for (int r = 0; r < 60; r++) {
            x.right(0, r % 10, r % 10 == 9 ? 9999 : 10000, 720, 0);
        }
        // 54 of 10000 and 6 of 9999 are 599994: 99900 * 60000 / 599994 = 9990.0999, 99900 * 59994 / 599994 = 9989.10.
        CHECK.due("cut(0)", x.cut(0), 99900);
        for (int o = 0; o < 9; o++) {
            CHECK.due("owner " + o, x.ownerOf(o, 1), 9990);
        }
        CHECK.due("owner 9", x.ownerOf(9, 1), 9989);
        CHECK.due("the reeve", x.ownerOf(-1, 1), 1);
    }
}
