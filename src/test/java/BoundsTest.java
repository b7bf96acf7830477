/**
 * For each call the last number that is taken and the first that is not, on both sides; none, one and as many as
 * there may be; and each of its refusals, which changes nothing but its count.
 */
public final class BoundsTest {
    private static final int LEAST = Integer.MIN_VALUE;
    private static final int MOST = Integer.MAX_VALUE;
    private static final Check CHECK = new Check();
    private static final Twins FRESH = new Twins(CHECK, Recipes::fresh);
    private static final Twins BUSY = new Twins(CHECK, Recipes::busy);
    private static final Twins FULL = new Twins(CHECK, Recipes::full);
    private static final Twins LAST_DAY = new Twins(CHECK, Recipes::lastDay);

    public static void main(String[] args) {
        busyIsAsTold();
        fullIsAsTold();
        piece();
        owner();
        house();
        rate();
        weather();
        right();
        rightOfEachKind();
        lend();
        sell();
        move();
        herd();
        put();
        drive();
        coveredAndLacks();
        over();
        pass();
        rest();
        cut();
        pound();
        free();
        planHerds();
        planStepsAndDays();
        planState();
        planned();
        pieceOf();
        rightOf();
        herdOf();
        ownerOf();
        count();
        CHECK.end();
    }

    private static void busyIsAsTold() {
        GrazeBook x = Recipes.busy();
        int[] counts = {102, 3, 3, 2, 6, 6};
        for (int what = 0; what < counts.length; what++) {
            CHECK.due("busy: count(" + what + ")", x.count(what), counts[what]);
        }
        int[] inForce = {1, 1, 1, 1, 0, 1, 0, 0, 0, 0, 1};
        int[] gone = {0, 0, 0, 0, 0, 0, 1, 0, 0, 0, 0};
        for (int r = 0; r < inForce.length; r++) {
            CHECK.due("busy: rightOf(" + r + ", 6)", x.rightOf(r, 6), inForce[r]);
            CHECK.due("busy: rightOf(" + r + ", 5)", x.rightOf(r, 5), gone[r]);
        }
        int[] pieces = {0, -1, -1, -1, 0, -1, 0};
        int[] states = {0, 0, 2, 1, 0, 0, 0};
        for (int h = 0; h < pieces.length; h++) {
            CHECK.due("busy: herdOf(" + h + ", 3)", x.herdOf(h, 3), pieces[h]);
            CHECK.due("busy: herdOf(" + h + ", 5)", x.herdOf(h, 5), states[h]);
        }
        CHECK.due("busy: lacks(2)", x.lacks(2), 19);
        CHECK.due("busy: herdOf(3, 6)", x.herdOf(3, 6), 6);
        CHECK.due("busy: all refusals", Check.refusals(x), 0);
    }

    private static void fullIsAsTold() {
        GrazeBook x = Recipes.full();
        int[] counts = {3, 6, 10, 10, 60, 20};
        for (int what = 0; what < counts.length; what++) {
            CHECK.due("full: count(" + what + ")", x.count(what), counts[what]);
        }
        CHECK.due("full: all refusals", Check.refusals(x), 0);
    }

    /** GRASS (0 .. 100000), FULL (1 .. 100000), BEARS (0 .. 10000), 6 PIECES. */
    private static void piece() {
        FRESH.taken("piece(0, 1, 0), the first", x -> x.piece(0, 1, 0, true), 0);
        BUSY.taken("piece(0, 1, 0), the fourth", x -> x.piece(0, 1, 0, true), 3);
        BUSY.taken("piece(100000, 100000, 10000)", x -> x.piece(100000, 100000, 10000, true), 3);
        BUSY.taken("piece(5, 5, 1)", x -> x.piece(5, 5, 1, false), 3);
        BUSY.refused("grass -1", x -> x.piece(-1, 1, 0, true), -4);
        BUSY.refused("grass least", x -> x.piece(LEAST, 1, 0, true), -4);
        BUSY.refused("full 0", x -> x.piece(0, 0, 0, true), -4);
        BUSY.refused("full least", x -> x.piece(0, LEAST, 0, true), -4);
        BUSY.refused("bears -1", x -> x.piece(0, 1, -1, true), -4);
        BUSY.refused("bears least", x -> x.piece(0, 1, LEAST, true), -4);
        BUSY.refused("full 100001", x -> x.piece(0, 100001, 0, true), -6);
        BUSY.refused("full most", x -> x.piece(0, MOST, 0, true), -6);
        BUSY.refused("grass one above full", x -> x.piece(6, 5, 0, true), -6);
        BUSY.refused("grass most", x -> x.piece(MOST, 100000, 0, true), -6);
        BUSY.refused("bears 10001", x -> x.piece(0, 1, 10001, true), -6);
        BUSY.refused("bears most", x -> x.piece(0, 1, MOST, true), -6);
        new Twins(CHECK, () -> pieces(5)).taken("the 6th piece", x -> x.piece(0, 1, 0, true), 5);
        new Twins(CHECK, () -> pieces(6)).refused("the 7th piece", x -> x.piece(0, 1, 0, true), -6);
    }

    private static GrazeBook pieces(int number) {
        GrazeBook x = new GrazeBook();
        for (int p = 0; p < number; p++) {
            x.piece(p, 100, p, true);
        }
        return x;
    }

    /** An OWNER with COINS (0 .. 100000); 10 OWNERS at most. */
    private static void owner() {
        FRESH.taken("owner(0), the first", x -> x.owner(0), 0);
        BUSY.taken("owner(0), the fourth", x -> x.owner(0), 3);
        BUSY.taken("owner(100000)", x -> x.owner(100000), 3);
        BUSY.refused("owner(-1)", x -> x.owner(-1), -4);
        BUSY.refused("owner(least)", x -> x.owner(LEAST), -4);
        BUSY.refused("owner(100001)", x -> x.owner(100001), -6);
        BUSY.refused("owner(most)", x -> x.owner(MOST), -6);
        new Twins(CHECK, () -> owners(9)).taken("the 10th owner", x -> x.owner(7), 9);
        new Twins(CHECK, () -> owners(10)).refused("the 11th owner", x -> x.owner(7), -6);
    }

    private static GrazeBook owners(int number) {
        GrazeBook x = new GrazeBook();
        for (int o = 0; o < number; o++) {
            x.owner(o);
        }
        return x;
    }

    /** HOUSES from 0 on (10 at most), each an OWNER's. */
    private static void house() {
        FRESH.refused("house(0) without owners", x -> x.house(0), -1);
        new Twins(CHECK, () -> owners(1)).taken("house(0), the first", x -> x.house(0), 0);
        BUSY.taken("house(0), the third", x -> x.house(0), 2);
        BUSY.taken("house(2), of the last owner", x -> x.house(2), 2);
        BUSY.refused("house(-1)", x -> x.house(-1), -1);
        BUSY.refused("house(3)", x -> x.house(3), -1);
        BUSY.refused("house(least)", x -> x.house(LEAST), -1);
        BUSY.refused("house(most)", x -> x.house(MOST), -1);
        new Twins(CHECK, () -> houses(9)).taken("the 10th house", x -> x.house(0), 9);
        new Twins(CHECK, () -> houses(10)).refused("the 11th house", x -> x.house(0), -6);
        FULL.refused("the 11th house, of the last owner", x -> x.house(9), -6);
    }

    private static GrazeBook houses(int number) {
        GrazeBook x = owners(2);
        for (int h = 0; h < number; h++) {
            x.house(h % 2);
        }
        return x;
    }

    /** RAIN and WARMTH (0 .. 9, 0 .. 9), RATE (0 .. 1000; all 0 at first). */
    private static void rate() {
        FRESH.taken("rate(0, 0, 1000), it was 0", x -> x.rate(0, 0, 1000), 0);
        BUSY.taken("rate(0, 0, 0), it was 3", x -> x.rate(0, 0, 0), 3);
        BUSY.taken("rate(9, 9, 1000), it was 11", x -> x.rate(9, 9, 1000), 11);
        BUSY.taken("rate(0, 9, 5)", x -> x.rate(0, 9, 5), 0);
        BUSY.taken("rate(9, 0, 5)", x -> x.rate(9, 0, 5), 0);
        BUSY.refused("rain -1", x -> x.rate(-1, 9, 5), -2);
        BUSY.refused("rain 10", x -> x.rate(10, 0, 5), -2);
        BUSY.refused("rain least", x -> x.rate(LEAST, 0, 5), -2);
        BUSY.refused("rain most", x -> x.rate(MOST, 0, 5), -2);
        BUSY.refused("warmth -1", x -> x.rate(1, -1, 5), -2);
        BUSY.refused("warmth 10", x -> x.rate(0, 10, 5), -2);
        BUSY.refused("warmth least", x -> x.rate(0, LEAST, 5), -2);
        BUSY.refused("warmth most", x -> x.rate(0, MOST, 5), -2);
        BUSY.refused("rate -1", x -> x.rate(0, 0, -1), -4);
        BUSY.refused("rate least", x -> x.rate(0, 0, LEAST), -4);
        BUSY.refused("rate 1001", x -> x.rate(0, 0, 1001), -6);
        BUSY.refused("rate most", x -> x.rate(0, 0, MOST), -6);
    }

    /** WEATHER of a DAY (0 .. 720) in the YEAR. */
    private static void weather() {
        BUSY.taken("weather(0, 0, 0)", x -> x.weather(0, 0, 0), 1);
        BUSY.taken("weather(720, 9, 9)", x -> x.weather(720, 9, 9), 1);
        BUSY.taken("weather(102, 0, 9), of now", x -> x.weather(102, 0, 9), 1);
        BUSY.taken("weather(5, 9, 0), of a day behind", x -> x.weather(5, 9, 0), 1);
        BUSY.refused("rain -1", x -> x.weather(110, -1, 0), -2);
        BUSY.refused("rain 10", x -> x.weather(110, 10, 0), -2);
        BUSY.refused("rain least", x -> x.weather(110, LEAST, 0), -2);
        BUSY.refused("rain most", x -> x.weather(110, MOST, 0), -2);
        BUSY.refused("warmth -1", x -> x.weather(110, 2, -1), -2);
        BUSY.refused("warmth 10", x -> x.weather(110, 0, 10), -2);
        BUSY.refused("warmth least", x -> x.weather(110, 0, LEAST), -2);
        BUSY.refused("warmth most", x -> x.weather(110, 0, MOST), -2);
        BUSY.refused("day -1", x -> x.weather(-1, 1, 1), -4);
        BUSY.refused("day least", x -> x.weather(LEAST, 1, 1), -4);
        BUSY.refused("day 721", x -> x.weather(721, 1, 1), -6);
        BUSY.refused("day most", x -> x.weather(MOST, 1, 1), -6);
    }

    /** KIND 0 to 3; PARTS 1 .. 10000; from this DAY to one (720 at most); 60 RIGHTS. */
    private static void right() {
        BUSY.taken("kind 0", x -> x.right(0, 0, 1, 102, 0), 11);
        BUSY.taken("kind 3", x -> x.right(3, 0, 1, 102, 0), 11);
        BUSY.refused("kind -1", x -> x.right(-1, 0, 1, 102, 0), -2);
        BUSY.refused("kind 4", x -> x.right(4, 0, 1, 102, 0), -2);
        BUSY.refused("kind least", x -> x.right(LEAST, 0, 1, 102, 0), -2);
        BUSY.refused("kind most", x -> x.right(MOST, 0, 1, 102, 0), -2);
        BUSY.taken("parts 1", x -> x.right(0, 0, 1, 720, 0), 11);
        BUSY.refused("parts 0", x -> x.right(0, 0, 0, 720, 0), -4);
        BUSY.refused("parts least", x -> x.right(0, 0, LEAST, 720, 0), -4);
        BUSY.taken("parts 10000", x -> x.right(0, 0, 10000, 720, 0), 11);
        BUSY.refused("parts 10001", x -> x.right(0, 0, 10001, 720, 0), -6);
        BUSY.refused("parts most", x -> x.right(0, 0, MOST, 720, 0), -6);
        BUSY.taken("to now", x -> x.right(0, 0, 5, 102, 0), 11);
        BUSY.refused("to the day ahead of now", x -> x.right(0, 0, 5, 101, 0), -4);
        BUSY.refused("to least", x -> x.right(0, 0, 5, LEAST, 0), -4);
        BUSY.taken("to 720", x -> x.right(0, 0, 5, 720, 0), 11);
        BUSY.refused("to 721", x -> x.right(0, 0, 5, 721, 0), -6);
        BUSY.refused("to most", x -> x.right(0, 0, 5, MOST, 0), -6);
        LAST_DAY.taken("to 720 on day 720", x -> x.right(0, 0, 5, 720, 0), 11);
        LAST_DAY.refused("to 719 on day 720", x -> x.right(0, 0, 5, 719, 0), -4);
        new Twins(CHECK, () -> rights(0)).taken("the 1st right", x -> x.right(0, 0, 5, 5, 0), 0);
        new Twins(CHECK, () -> rights(59)).taken("the 60th right", x -> x.right(0, 0, 5, 5, 0), 59);
        new Twins(CHECK, () -> rights(60)).refused("the 61st right", x -> x.right(0, 0, 5, 5, 0), -6);
    }

    /** Rights that are over count among those that were ever made. */
    private static GrazeBook rights(int number) {
        GrazeBook x = owners(2);
        for (int r = 0; r < number; r++) {
            x.right(0, 0, 9, r % 2 == 0 ? 0 : 40, 0);
        }
        x.pass(1);
        return x;
    }

    private static void rightOfEachKind() {
        for (int kind = 0; kind <= 3; kind++) {
            int k = kind;
            int last = kind == 1 ? 1 : 2;
            String of = "kind " + kind + ", ";
            BUSY.taken(of + "who 0", x -> x.right(k, 0, 5, 200, 0), 11);
            BUSY.taken(of + "who the last", x -> x.right(k, last, 5, 200, 0), 11);
            BUSY.refused(of + "who -1", x -> x.right(k, -1, 5, 200, 0), -1);
            BUSY.refused(of + "who one too many", x -> x.right(k, last + 1, 5, 200, 0), -1);
            BUSY.refused(of + "who least", x -> x.right(k, LEAST, 5, 200, 0), -1);
            BUSY.refused(of + "who most", x -> x.right(k, MOST, 5, 200, 0), -1);
            if (kind != 3) {
                BUSY.taken(of + "any x: -1", x -> x.right(k, 0, 5, 200, -1), 11);
                BUSY.taken(of + "any x: least", x -> x.right(k, 0, 5, 200, LEAST), 11);
                BUSY.taken(of + "any x: most", x -> x.right(k, 0, 5, 200, MOST), 11);
            }
        }
        BUSY.taken("a leaze of the last piece", x -> x.right(3, 0, 5, 200, 2), 11);
        BUSY.refused("a leaze of piece -1", x -> x.right(3, 0, 5, 200, -1), -1);
        BUSY.refused("a leaze of piece 3", x -> x.right(3, 0, 5, 200, 3), -1);
        BUSY.refused("a leaze of piece least", x -> x.right(3, 0, 5, 200, LEAST), -1);
        BUSY.refused("a leaze of piece most", x -> x.right(3, 0, 5, 200, MOST), -1);
    }

    private static void lend() {
        BUSY.taken("right 0, to owner 1", x -> x.lend(0, 1, 1, 102), 11);
        BUSY.taken("the last right, to owner 0", x -> x.lend(10, 0, 5, 720), 11);
        BUSY.refused("right -1", x -> x.lend(-1, 1, 1, 102), -1);
        BUSY.refused("right 11", x -> x.lend(11, 1, 1, 102), -1);
        BUSY.refused("right least", x -> x.lend(LEAST, 1, 1, 102), -1);
        BUSY.refused("right most", x -> x.lend(MOST, 1, 1, 102), -1);
        BUSY.taken("to the last owner", x -> x.lend(0, 2, 1, 102), 11);
        BUSY.refused("to owner -1", x -> x.lend(0, -1, 1, 102), -1);
        BUSY.refused("to owner 3", x -> x.lend(0, 3, 1, 102), -1);
        BUSY.refused("to owner least", x -> x.lend(0, LEAST, 1, 102), -1);
        BUSY.refused("to owner most", x -> x.lend(0, MOST, 1, 102), -1);
        BUSY.refused("to its own owner", x -> x.lend(0, 0, 1, 102), -1);
        BUSY.refused("a tied one", x -> x.lend(1, 1, 1, 102), -2);
        BUSY.refused("a walk", x -> x.lend(2, 1, 1, 102), -2);
        BUSY.refused("a leaze", x -> x.lend(3, 0, 1, 102), -2);
        BUSY.refused("a lent one", x -> x.lend(5, 0, 1, 102), -2);
        BUSY.refused("one that is over", x -> x.lend(4, 1, 1, 102), -3);
        BUSY.refused("one that has lapsed", x -> x.lend(6, 1, 1, 102), -3);
        BUSY.refused("parts 0", x -> x.lend(0, 1, 0, 102), -4);
        BUSY.refused("parts least", x -> x.lend(0, 1, LEAST, 102), -4);
        BUSY.taken("all parts that count", x -> x.lend(0, 1, 260, 102), 11);
        BUSY.refused("one part more", x -> x.lend(0, 1, 261, 102), -5);
        BUSY.refused("parts most", x -> x.lend(0, 1, MOST, 102), -5);
        BUSY.refused("to the day ahead of now", x -> x.lend(0, 1, 1, 101), -4);
        BUSY.refused("to day least", x -> x.lend(0, 1, 1, LEAST), -4);
        BUSY.taken("to its own last day", x -> x.lend(0, 1, 1, 720), 11);
        BUSY.refused("to the day behind its last", x -> x.lend(0, 1, 1, 721), -6);
        BUSY.refused("to day most", x -> x.lend(0, 1, 1, MOST), -6);
        Twins short20 = new Twins(CHECK, () -> rightTo(20));
        short20.taken("to its own last day, 20", x -> x.lend(0, 1, 9, 20), 1);
        short20.refused("to day 21", x -> x.lend(0, 1, 9, 21), -6);
        new Twins(CHECK, () -> rights(59)).taken("the 60th right", x -> x.lend(1, 1, 9, 40), 59);
        new Twins(CHECK, () -> rights(60)).refused("the 61st right", x -> x.lend(1, 1, 9, 40), -6);
    }

    private static GrazeBook rightTo(int last) {
        GrazeBook x = owners(2);
        x.right(0, 0, 9, last, 0);
        x.pass(last);
        return x;
    }

    private static void sell() {
        BUSY.taken("right 0", x -> x.sell(0, 1), 1);
        BUSY.taken("the last right", x -> x.sell(10, 0), 1);
        BUSY.taken("to the last owner", x -> x.sell(0, 2), 1);
        BUSY.refused("right -1", x -> x.sell(-1, 1), -1);
        BUSY.refused("right 11", x -> x.sell(11, 1), -1);
        BUSY.refused("right least", x -> x.sell(LEAST, 1), -1);
        BUSY.refused("right most", x -> x.sell(MOST, 1), -1);
        BUSY.refused("to owner -1", x -> x.sell(0, -1), -1);
        BUSY.refused("to owner 3", x -> x.sell(0, 3), -1);
        BUSY.refused("to owner least", x -> x.sell(0, LEAST), -1);
        BUSY.refused("to owner most", x -> x.sell(0, MOST), -1);
        BUSY.refused("to its own owner", x -> x.sell(0, 0), -1);
        BUSY.refused("a tied one", x -> x.sell(1, 1), -2);
        BUSY.refused("a walk", x -> x.sell(2, 1), -2);
        BUSY.refused("a leaze", x -> x.sell(3, 0), -2);
        BUSY.refused("a lent one", x -> x.sell(5, 0), -2);
        BUSY.refused("one that is over", x -> x.sell(4, 1), -3);
        BUSY.refused("one that has lapsed", x -> x.sell(6, 1), -3);
        new Twins(CHECK, () -> rightTo(20)).taken("on its last day", x -> x.sell(0, 1), 1);
        new Twins(CHECK, () -> rights(1)).refused("on the day behind", x -> x.sell(0, 1), -3);
        FRESH.refused("none at all", x -> x.sell(0, 0), -1);
    }

    private static void move() {
        BUSY.taken("house 0", x -> x.move(0, 1), 1);
        BUSY.taken("the last house, to owner 0", x -> x.move(1, 0), 1);
        BUSY.taken("to the last owner", x -> x.move(1, 2), 1);
        BUSY.refused("house -1", x -> x.move(-1, 1), -1);
        BUSY.refused("house 2", x -> x.move(2, 1), -1);
        BUSY.refused("house least", x -> x.move(LEAST, 1), -1);
        BUSY.refused("house most", x -> x.move(MOST, 1), -1);
        BUSY.refused("to owner -1", x -> x.move(0, -1), -1);
        BUSY.refused("to owner 3", x -> x.move(0, 3), -1);
        BUSY.refused("to owner least", x -> x.move(0, LEAST), -1);
        BUSY.refused("to owner most", x -> x.move(0, MOST), -1);
        BUSY.refused("to its own owner", x -> x.move(0, 0), -1);
        FULL.taken("the 10th house", x -> x.move(9, 0), 1);
        FULL.refused("no 11th house", x -> x.move(10, 0), -1);
    }

    /** SORTS 0, 1, 2; how many (1 .. 100); 20 HERDS at most are ever made. */
    private static void herd() {
        BUSY.taken("owner 0, sort 0, one", x -> x.herd(0, 0, 1), 7);
        BUSY.taken("the last owner, sort 2, a hundred", x -> x.herd(2, 2, 100), 7);
        BUSY.refused("owner -1", x -> x.herd(-1, 0, 1), -1);
        BUSY.refused("owner 3", x -> x.herd(3, 0, 1), -1);
        BUSY.refused("owner least", x -> x.herd(LEAST, 0, 1), -1);
        BUSY.refused("owner most", x -> x.herd(MOST, 0, 1), -1);
        BUSY.refused("sort -1", x -> x.herd(0, -1, 1), -2);
        BUSY.refused("sort 3", x -> x.herd(0, 3, 1), -2);
        BUSY.refused("sort least", x -> x.herd(0, LEAST, 1), -2);
        BUSY.refused("sort most", x -> x.herd(0, MOST, 1), -2);
        BUSY.refused("of none", x -> x.herd(0, 0, 0), -4);
        BUSY.refused("of least", x -> x.herd(0, 0, LEAST), -4);
        BUSY.refused("of 101", x -> x.herd(0, 0, 101), -6);
        BUSY.refused("of most", x -> x.herd(0, 0, MOST), -6);
        new Twins(CHECK, () -> herds(0)).taken("the 1st herd", x -> x.herd(1, 1, 2), 0);
        new Twins(CHECK, () -> herds(19)).taken("the 20th herd", x -> x.herd(1, 1, 2), 19);
        new Twins(CHECK, () -> herds(20)).refused("the 21st herd", x -> x.herd(1, 1, 2), -6);
    }

    /** A herd that is lost counts among those that were ever made. */
    private static GrazeBook herds(int number) {
        GrazeBook x = owners(2);
        x.piece(1000, 1000, 0, true);
        x.right(0, 0, 30, 0, 0);
        for (int h = 0; h < number; h++) {
            x.herd(0, 0, 1);
        }
        x.put(0, 0);
        x.pass(1);
        x.pound(0);
        x.pass(30);
        return x;
    }

    private static void put() {
        BUSY.taken("herd 1 onto piece 0", x -> x.put(1, 0), 1);
        BUSY.taken("herd 1 onto piece 1", x -> x.put(1, 1), 1);
        BUSY.refused("herd -1", x -> x.put(-1, 0), -1);
        BUSY.refused("herd 7", x -> x.put(7, 0), -1);
        BUSY.refused("herd least", x -> x.put(LEAST, 0), -1);
        BUSY.refused("herd most", x -> x.put(MOST, 0), -1);
        BUSY.refused("piece -1", x -> x.put(1, -1), -1);
        BUSY.refused("piece 3", x -> x.put(1, 3), -1);
        BUSY.refused("piece least", x -> x.put(1, LEAST), -1);
        BUSY.refused("piece most", x -> x.put(1, MOST), -1);
        BUSY.refused("it is lost", x -> x.put(2, 1), -3);
        BUSY.refused("it is out, onto another", x -> x.put(0, 1), -3);
        BUSY.refused("it is out, onto the same", x -> x.put(0, 0), -3);
        BUSY.refused("it is in the pound", x -> x.put(3, 1), -3);
        BUSY.refused("the piece rests", x -> x.put(1, 2), -3);
        BUSY.refused("not covered", x -> x.put(5, 1), -5);
        BUSY.taken("the rights are just enough", x -> {
            x.right(0, 2, 169, 102, 0);
            return x.put(5, 1);
        }, 1);
        new Twins(CHECK, () -> onePartShort()).refused("one part lacks", x -> x.put(5, 1), -5);
        FULL.taken("the 20th herd onto the 6th piece", x -> x.put(19, 5), 1);
    }

    /** Herds 4 (24 parts) and 5 (150) of owner 2 want 174 parts. */
    private static GrazeBook onePartShort() {
        GrazeBook x = Recipes.busy();
        x.right(0, 2, 168, 102, 0);
        return x;
    }

    private static void drive() {
        BUSY.taken("off", x -> x.drive(0, -1), 0);
        BUSY.taken("the last herd to piece 1", x -> x.drive(6, 1), 0);
        BUSY.taken("without rights", x -> x.drive(4, 1), 0);
        BUSY.refused("herd -1", x -> x.drive(-1, 1), -1);
        BUSY.refused("herd 7", x -> x.drive(7, 1), -1);
        BUSY.refused("herd least", x -> x.drive(LEAST, 1), -1);
        BUSY.refused("herd most", x -> x.drive(MOST, 1), -1);
        BUSY.refused("to -2", x -> x.drive(0, -2), -1);
        BUSY.refused("to 3", x -> x.drive(0, 3), -1);
        BUSY.refused("to least", x -> x.drive(0, LEAST), -1);
        BUSY.refused("to most", x -> x.drive(0, MOST), -1);
        BUSY.refused("it is lost", x -> x.drive(2, 1), -3);
        BUSY.refused("it is lost, off", x -> x.drive(2, -1), -3);
        BUSY.refused("it is off", x -> x.drive(1, 1), -3);
        BUSY.refused("it is off, off", x -> x.drive(1, -1), -3);
        BUSY.refused("it is in the pound", x -> x.drive(3, 1), -3);
        BUSY.refused("it is in the pound, off", x -> x.drive(3, -1), -3);
        BUSY.refused("the piece rests", x -> x.drive(0, 2), -3);
        BUSY.refused("it is there", x -> x.drive(0, 0), -3);
        BUSY.taken("onto the last piece behind its rest", x -> {
            x.pass(9);
            return x.drive(0, 2);
        }, 0);
    }

    private static void coveredAndLacks() {
        BUSY.taken("covered(0)", x -> x.covered(0), 1);
        BUSY.taken("covered(2)", x -> x.covered(2), 0);
        BUSY.taken("lacks(0)", x -> x.lacks(0), 0);
        BUSY.taken("lacks(2)", x -> x.lacks(2), 19);
        for (int owner : new int[] {-1, 3, LEAST, MOST}) {
            BUSY.refused("covered(" + owner + ")", x -> x.covered(owner), -1);
            BUSY.refused("lacks(" + owner + ")", x -> x.lacks(owner), -1);
        }
        FRESH.refused("covered(0), none at all", x -> x.covered(0), -1);
        FRESH.refused("lacks(0), none at all", x -> x.lacks(0), -1);
        FULL.taken("covered(9)", x -> x.covered(9), 1);
        FULL.refused("covered(10)", x -> x.covered(10), -1);
        FULL.taken("lacks(9)", x -> x.lacks(9), 0);
        FULL.refused("lacks(10)", x -> x.lacks(10), -1);
    }

    private static void over() {
        // On piece 0, which bears 70: herds 0 (60 parts), 6 (6) and last 4 (24).
        BUSY.taken("over(0, 0)", x -> x.over(0, 0), 4);
        BUSY.taken("over(0, 1)", x -> x.over(0, 1), -9);
        BUSY.taken("over(0, -1)", x -> x.over(0, -1), -9);
        BUSY.taken("over(0, least)", x -> x.over(0, LEAST), -9);
        BUSY.taken("over(0, most)", x -> x.over(0, MOST), -9);
        BUSY.taken("over(2, 0), nothing there", x -> x.over(2, 0), -9);
        for (int piece : new int[] {-1, 3, LEAST, MOST}) {
            BUSY.refused("over(" + piece + ", 0)", x -> x.over(piece, 0), -1);
        }
        BUSY.refused("over(3, -1)", x -> x.over(3, -1), -1);
        FULL.taken("over(5, 0)", x -> x.over(5, 0), -9);
        FULL.refused("over(6, 0)", x -> x.over(6, 0), -1);
    }

    private static void pass() {
        FRESH.taken("pass(1)", x -> x.pass(1), 0);
        FRESH.taken("pass(720)", x -> x.pass(720), 0);
        FRESH.refused("pass(721)", x -> x.pass(721), -6);
        BUSY.refused("pass(0)", x -> x.pass(0), -4);
        BUSY.refused("pass(-1)", x -> x.pass(-1), -4);
        BUSY.refused("pass(least)", x -> x.pass(LEAST), -4);
        BUSY.taken("pass(618), then the day", x -> x.pass(618) < 0 ? -1 : x.count(0), 720);
        BUSY.refused("pass(619)", x -> x.pass(619), -6);
        BUSY.refused("pass(most)", x -> x.pass(MOST), -6);
        LAST_DAY.refused("pass(1) on day 720", x -> x.pass(1), -6);
        LAST_DAY.refused("pass(0) on day 720", x -> x.pass(0), -4);
    }

    private static void rest() {
        FRESH.refused("none at all", x -> x.rest(0, 0), -1);
        BUSY.taken("piece 0, to now", x -> x.rest(0, 102), -1);
        BUSY.taken("the last piece, to 740", x -> x.rest(2, 740), 110);
        BUSY.taken("sooner than it would have", x -> x.rest(2, 102), 110);
        for (int piece : new int[] {-1, 3, LEAST, MOST}) {
            BUSY.refused("rest(" + piece + ", 200)", x -> x.rest(piece, 200), -1);
        }
        BUSY.refused("to the day ahead of now", x -> x.rest(0, 101), -4);
        BUSY.refused("to -1", x -> x.rest(0, -1), -4);
        BUSY.refused("to least", x -> x.rest(0, LEAST), -4);
        BUSY.refused("to 741", x -> x.rest(0, 741), -6);
        BUSY.refused("to most", x -> x.rest(0, MOST), -6);
        LAST_DAY.taken("to 720 on day 720", x -> x.rest(0, 720), -1);
        LAST_DAY.taken("to 740 on day 720", x -> x.rest(0, 740), -1);
        LAST_DAY.refused("to 719 on day 720", x -> x.rest(0, 719), -4);
    }

    private static void cut() {
        FRESH.refused("none at all", x -> x.cut(0), -1);
        BUSY.taken("piece 1, which has too little", x -> x.cut(1), 0);
        for (int piece : new int[] {-1, 3, LEAST, MOST}) {
            BUSY.refused("cut(" + piece + ")", x -> x.cut(piece), -1);
        }
        BUSY.refused("it rests", x -> x.cut(2), -3);
        BUSY.refused("herds are on it", x -> x.cut(0), -3);
        FULL.taken("piece 5", x -> x.cut(5), 4903);
        FULL.refused("no 7th piece", x -> x.cut(6), -1);
    }

    private static void pound() {
        FRESH.refused("none at all", x -> x.pound(0), -1);
        BUSY.taken("a stray", x -> x.pound(4), 1);
        for (int herd : new int[] {-1, 7, LEAST, MOST}) {
            BUSY.refused("pound(" + herd + ")", x -> x.pound(herd), -1);
        }
        BUSY.refused("it is lost", x -> x.pound(2), -3);
        BUSY.refused("it is in the pound", x -> x.pound(3), -3);
        BUSY.refused("it is off, and its owner is covered", x -> x.pound(1), -3);
        BUSY.refused("it is off, though its owner is not covered", x -> x.pound(5), -3);
        BUSY.refused("its owner is covered", x -> x.pound(0), -3);
        FULL.refused("no 21st herd", x -> x.pound(20), -1);
    }

    private static void free() {
        FRESH.refused("none at all", x -> x.free(0), -1);
        for (int herd : new int[] {-1, 7, LEAST, MOST}) {
            BUSY.refused("free(" + herd + ")", x -> x.free(herd), -1);
        }
        BUSY.refused("it is out", x -> x.free(0), -3);
        BUSY.refused("it is off", x -> x.free(1), -3);
        BUSY.refused("it is lost", x -> x.free(2), -3);
        BUSY.refused("no coins", x -> x.free(3), -5);
        Twins fee50 = new Twins(CHECK, () -> pounded(5, 9));
        fee50.taken("a fee of 50 of 50 coins", x -> x.free(0), 50);
        Twins fee51 = new Twins(CHECK, () -> pounded(17, 2));
        fee51.refused("a fee of 51 of 50 coins", x -> x.free(0), -5);
        new Twins(CHECK, () -> pounded(1, 0)).taken("on the first day", x -> x.free(0), 1);
        new Twins(CHECK, () -> pounded(1, 29)).taken("on the 30th day", x -> x.free(0), 30);
        new Twins(CHECK, () -> pounded(1, 30)).refused("on the 31st day it is lost", x -> x.free(0), -3);
    }

    /** So many sheep of an owner with 50 coins, in the pound for so many days more than one. */
    private static GrazeBook pounded(int sheep, int days) {
        GrazeBook x = new GrazeBook();
        x.piece(1000, 1000, 0, true);
        x.owner(50);
        x.right(0, 0, 600, 0, 0);
        x.herd(0, 2, sheep);
        x.put(0, 0);
        x.pass(1);
        x.pound(0);
        for (int i = 0; i < days; i++) {
            x.pass(1);
        }
        return x;
    }

    private static void planHerds() {
        FRESH.refused("none at all", x -> x.plan(0, -1, 1, 1), -1);
        BUSY.taken("herd 0 alone", x -> x.plan(0, -1, 1, 1), 0);
        BUSY.taken("the last herd, with herd 0", x -> x.plan(6, 0, 1, 1), 0);
        for (int herd : new int[] {-1, 7, LEAST, MOST}) {
            BUSY.refused("plan(" + herd + ", -1, 1, 1)", x -> x.plan(herd, -1, 1, 1), -1);
            BUSY.refused("plan(" + herd + ", 0, 1, 1)", x -> x.plan(herd, 0, 1, 1), -1);
        }
        for (int other : new int[] {-2, 7, LEAST, MOST}) {
            BUSY.refused("plan(0, " + other + ", 1, 1)", x -> x.plan(0, other, 1, 1), -1);
        }
        BUSY.refused("both are one", x -> x.plan(1, 1, 1, 1), -1);
        FULL.taken("herds 19 and 18", x -> x.plan(19, 18, 1, 1), 0);
        FULL.refused("no 21st herd", x -> x.plan(20, -1, 1, 1), -1);
        FULL.refused("no 21st herd as the other", x -> x.plan(0, 20, 1, 1), -1);
    }

    /** STEPS (1 or 2; of one HERD 1 .. 4) of L DAYS each (1 .. 10). */
    private static void planStepsAndDays() {
        BUSY.taken("two herds, 1 step of 1 day", x -> x.plan(0, 1, 1, 1), 0);
        BUSY.taken("two herds, 2 steps of 10 days", x -> x.plan(0, 1, 2, 10), 0);
        BUSY.taken("one herd, 1 step of 10 days", x -> x.plan(0, -1, 1, 10), 0);
        BUSY.taken("one herd, 4 steps of 10 days", x -> x.plan(0, -1, 4, 10), 0);
        for (int steps : new int[] {0, -1, LEAST, 3, MOST}) {
            BUSY.refused("two herds, steps " + steps, x -> x.plan(0, 1, steps, 1), -2);
        }
        for (int steps : new int[] {0, -1, LEAST, 5, MOST}) {
            BUSY.refused("one herd, steps " + steps, x -> x.plan(0, -1, steps, 1), -2);
        }
        for (int days : new int[] {0, -1, LEAST, 11, MOST}) {
            BUSY.refused("two herds, days " + days, x -> x.plan(0, 1, 1, days), -2);
            BUSY.refused("one herd, days " + days, x -> x.plan(0, -1, 1, days), -2);
        }
        Twins ahead = new Twins(CHECK, () -> busyOn(680));
        ahead.taken("one herd, to day 720", x -> x.plan(0, -1, 4, 10) >= 0 ? 1 : 0, 1);
        new Twins(CHECK, () -> busyOn(681)).refused("one herd, to day 721", x -> x.plan(0, -1, 4, 10), -6);
        new Twins(CHECK, () -> busyOn(700)).taken("two, to day 720", x -> x.plan(0, 1, 2, 10) >= 0 ? 1 : 0, 1);
        new Twins(CHECK, () -> busyOn(701)).refused("two, to day 721", x -> x.plan(0, 1, 2, 10), -6);
        new Twins(CHECK, () -> busyOn(719)).taken("one day to day 720", x -> x.plan(0, 1, 1, 1) >= 0 ? 1 : 0, 1);
        LAST_DAY.refused("one day on day 720", x -> x.plan(0, 1, 1, 1), -6);
    }

    private static GrazeBook busyOn(int day) {
        GrazeBook x = Recipes.busy();
        x.pass(day - 102);
        return x;
    }

    private static void planState() {
        BUSY.refused("the first is lost", x -> x.plan(2, -1, 1, 1), -3);
        BUSY.refused("the second is lost", x -> x.plan(0, 2, 1, 1), -3);
        BUSY.refused("the first is in the pound", x -> x.plan(3, 0, 1, 1), -3);
        BUSY.refused("the second is in the pound", x -> x.plan(0, 3, 1, 1), -3);
        new Twins(CHECK, () -> atRest(102)).taken("all rest to now", x -> x.plan(0, -1, 1, 1), 0);
        new Twins(CHECK, () -> atRest(103)).refused("all rest to the day behind", x -> x.plan(0, -1, 1, 1), -3);
        new Twins(CHECK, () -> atRest(103)).refused("for four steps, too", x -> x.plan(0, -1, 4, 1), -3);
        new Twins(CHECK, BoundsTest::noPiece).refused("no piece at all", x -> x.plan(0, -1, 1, 1), -3);
    }

    private static GrazeBook atRest(int to) {
        GrazeBook x = Recipes.busy();
        for (int p = 0; p < 3; p++) {
            x.rest(p, to);
        }
        return x;
    }

    private static GrazeBook noPiece() {
        GrazeBook x = owners(1);
        x.herd(0, 0, 1);
        return x;
    }

    /** -9 if there is none such; that is no refusal. */
    private static void planned() {
        FRESH.taken("no plan yet", x -> x.planned(0, 0), -9);
        BUSY.taken("step 0 of the first", x -> x.planned(0, 0), 0);
        BUSY.taken("step 1 of the second", x -> x.planned(1, 1), 0);
        for (int step : new int[] {-1, 2, 3, LEAST, MOST}) {
            BUSY.taken("planned(" + step + ", 0)", x -> x.planned(step, 0), -9);
            BUSY.taken("planned(" + step + ", 1)", x -> x.planned(step, 1), -9);
        }
        for (int which : new int[] {-1, 2, LEAST, MOST}) {
            BUSY.taken("planned(0, " + which + ")", x -> x.planned(0, which), -9);
        }
        Twins four = new Twins(CHECK, BoundsTest::fourSteps);
        four.taken("step 3 of one herd", x -> x.planned(3, 0), 0);
        four.taken("step 4 of one herd", x -> x.planned(4, 0), -9);
        four.taken("no second herd", x -> x.planned(0, 1), -9);
        four.taken("no second herd in step 3", x -> x.planned(3, 1), -9);
    }

    private static GrazeBook fourSteps() {
        GrazeBook x = Recipes.busy();
        x.plan(0, -1, 4, 1);
        return x;
    }

    private static void pieceOf() {
        FRESH.refused("none at all", x -> x.pieceOf(0, 0), -1);
        BUSY.taken("pieceOf(0, 1)", x -> x.pieceOf(0, 1), 9000);
        BUSY.taken("pieceOf(2, 3)", x -> x.pieceOf(2, 3), 110);
        BUSY.taken("pieceOf(0, 3), -1 is no refusal", x -> x.pieceOf(0, 3), -1);
        BUSY.taken("what 0", x -> x.pieceOf(2, 0) > 0 ? 1 : 0, 1);
        BUSY.taken("what 6", x -> x.pieceOf(2, 6), 0);
        for (int piece : new int[] {-1, 3, LEAST, MOST}) {
            BUSY.refused("pieceOf(" + piece + ", 0)", x -> x.pieceOf(piece, 0), -1);
        }
        for (int what : new int[] {-1, 7, LEAST, MOST}) {
            BUSY.refused("pieceOf(0, " + what + ")", x -> x.pieceOf(0, what), -2);
        }
        FULL.taken("pieceOf(5, 2)", x -> x.pieceOf(5, 2), 50);
        FULL.refused("no 7th piece", x -> x.pieceOf(6, 2), -1);
    }

    private static void rightOf() {
        FRESH.refused("none at all", x -> x.rightOf(0, 0), -1);
        BUSY.taken("what 0", x -> x.rightOf(10, 0), 0);
        BUSY.taken("what 8, -9 is no refusal", x -> x.rightOf(6, 8), -9);
        BUSY.taken("what 7, -9 is no refusal", x -> x.rightOf(0, 7), -9);
        for (int right : new int[] {-1, 11, LEAST, MOST}) {
            BUSY.refused("rightOf(" + right + ", 0)", x -> x.rightOf(right, 0), -1);
        }
        for (int what : new int[] {-1, 9, LEAST, MOST}) {
            BUSY.refused("rightOf(0, " + what + ")", x -> x.rightOf(0, what), -2);
        }
        FULL.taken("rightOf(59, 0)", x -> x.rightOf(59, 0), 3);
        FULL.refused("no 61st right", x -> x.rightOf(60, 0), -1);
    }

    private static void herdOf() {
        FRESH.refused("none at all", x -> x.herdOf(0, 0), -1);
        BUSY.taken("what 0", x -> x.herdOf(6, 0), 0);
        BUSY.taken("what 3, -1 is no refusal", x -> x.herdOf(1, 3), -1);
        BUSY.taken("what 6", x -> x.herdOf(0, 6), 0);
        for (int herd : new int[] {-1, 7, LEAST, MOST}) {
            BUSY.refused("herdOf(" + herd + ", 0)", x -> x.herdOf(herd, 0), -1);
        }
        for (int what : new int[] {-1, 7, LEAST, MOST}) {
            BUSY.refused("herdOf(0, " + what + ")", x -> x.herdOf(0, what), -2);
        }
        FULL.taken("herdOf(19, 0)", x -> x.herdOf(19, 0), 9);
        FULL.refused("no 21st herd", x -> x.herdOf(20, 0), -1);
    }

    private static void ownerOf() {
        FRESH.taken("the reeve is always there", x -> x.ownerOf(-1, 0), 0);
        FRESH.refused("no owner at all", x -> x.ownerOf(0, 0), -1);
        BUSY.taken("what 0", x -> x.ownerOf(2, 0), 1000);
        BUSY.taken("what 3", x -> x.ownerOf(2, 3), 5);
        BUSY.taken("of the reeve, what 0", x -> x.ownerOf(-1, 0), 30);
        BUSY.taken("of the reeve, what 3", x -> x.ownerOf(-1, 3), 0);
        for (int owner : new int[] {-2, 3, LEAST, MOST}) {
            BUSY.refused("ownerOf(" + owner + ", 0)", x -> x.ownerOf(owner, 0), -1);
        }
        for (int what : new int[] {-1, 4, LEAST, MOST}) {
            BUSY.refused("ownerOf(0, " + what + ")", x -> x.ownerOf(0, what), -2);
            BUSY.refused("ownerOf(-1, " + what + ")", x -> x.ownerOf(-1, what), -2);
        }
        FULL.taken("ownerOf(9, 0)", x -> x.ownerOf(9, 0), 9);
        FULL.refused("no 11th owner", x -> x.ownerOf(10, 0), -1);
    }

    /** -9 for another what; that is no refusal. */
    private static void count() {
        BUSY.taken("what 0", x -> x.count(0), 102);
        BUSY.taken("what 9", x -> x.count(9), 1);
        for (int what = 11; what <= 16; what++) {
            int w = what;
            BUSY.taken("what " + what, x -> x.count(w), 0);
        }
        for (int what : new int[] {-1, 10, 17, LEAST, MOST}) {
            BUSY.taken("what " + what, x -> x.count(what), -9);
        }
    }
}
