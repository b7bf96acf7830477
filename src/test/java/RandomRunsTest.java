import java.util.Random;

/** Long mixed runs of all calls, on a GrazeBook and a PlainBook side by side. Seeds are fixed. */
public final class RandomRunsTest {
    private static final int RUNS = 600;
    /** More is not promised of one object. */
    private static final int CALLS = 512;
    /** What is asked at the end of a run, a row for each kind of run: a call, from which number to which, how many whats. */
    private static final int[][] LAST_ASKED = {{22, -1, 6, 7}, {23, 0, 20, 9}, {23, 20, 40, 9}, {23, 40, 60, 9},
        {24, 0, 20, 7}, {25, -1, 10, 4}, {26, 0, 18, 1}};
    private static final int[] EDGES = {Integer.MIN_VALUE, -10, -2, -1, 0, 1, 2, 9, 10, 60, 100, 720, 721, 100001,
        Integer.MAX_VALUE};
    private static final String[] NAMES = {"piece", "owner", "house", "rate", "weather", "right", "lend", "sell",
        "move", "herd", "put", "drive", "covered", "lacks", "over", "pass", "rest", "cut", "pound", "free", "plan",
        "planned", "pieceOf", "rightOf", "herdOf", "ownerOf", "count"};
    /** How often each call comes, of a thousand. */
    private static final int[] WEIGHTS = {15, 12, 12, 30, 40, 60, 60, 30, 25, 40, 110, 60, 15, 40, 50, 60, 20, 30, 40,
        25, 16, 40, 40, 50, 40, 40, 20};

    private final Random random;
    private final GrazeBook book = new GrazeBook();
    private final PlainBook plain = new PlainBook();
    /** How bold a run is with days: 0 keeps days few, so that much happens ahead of the end. */
    private final int pace;
    private final int full;
    private final int wild;
    private int rightsMade = 0;
    private int herdsMade = 0;

    private RandomRunsTest(long seed) {
        random = new Random(seed);
        pace = random.nextInt(4);
        full = random.nextBoolean() ? 3000 : 100000;
        wild = random.nextInt(3) == 0 ? 8 : 100;
    }

    public static void main(String[] args) {
        Check check = new Check();
        int[] good = new int[NAMES.length];
        for (int seed = 0; seed < RUNS; seed++) {
            if (!new RandomRunsTest(seed).run(seed, check, good)) {
                break;
            }
        }
        for (int call = 0; call < NAMES.length; call++) {
            check.due(NAMES[call] + " was often answered by no refusal", good[call] > 100 ? 1 : 0, 1);
        }
        check.end();
    }

    private boolean run(int seed, Check check, int[] good) {
        int[] last = LAST_ASKED[seed % LAST_ASKED.length];
        int calls = CALLS - (last[2] - last[1]) * last[3];
        for (int i = 0; i < calls; i++) {
            int call = i < 25 ? i % 10 : pick();
            int[] a = arguments(call);
            int want = askPlain(call, a);
            int got = askBook(call, a);
            check.due("seed " + seed + ", call " + i + ": " + NAMES[call] + java.util.Arrays.toString(a), got, want);
            if (want >= 0) {
                good[call]++;
                rightsMade += call == 5 || call == 6 ? 1 : 0;
                herdsMade += call == 9 ? 1 : 0;
            }
            if (got != want) {
                return false;
            }
        }
        return sameAtTheEnd(seed, last, check);
    }

    private boolean sameAtTheEnd(int seed, int[] last, Check check) {
        boolean same = true;
        for (int i = last[1]; i < last[2]; i++) {
            for (int what = 0; what < last[3]; what++) {
                int[] a = {i, what, 0, 0, 0};
                int want = askPlain(last[0], a);
                int got = askBook(last[0], a);
                check.due("seed " + seed + ", at the end: " + NAMES[last[0]] + "(" + i + ", " + what + ")", got, want);
                same &= got == want;
            }
        }
        return same;
    }

    private int pick() {
        int at = random.nextInt(java.util.Arrays.stream(WEIGHTS).sum());
        int call = 0;
        while (at >= WEIGHTS[call]) {
            at -= WEIGHTS[call];
            call++;
        }
        return call;
    }

    private int below(int bound) {
        return random.nextInt(wild) == 0 ? EDGES[random.nextInt(EDGES.length)] : random.nextInt(bound);
    }

    private int oneOf(int number) {
        return below(Math.max(1, number + (random.nextInt(20) == 0 ? 1 : 0)));
    }

    private int dayAhead(int far) {
        return plain.count(0) + below(far) - (random.nextInt(15) == 0 ? 1 : 0);
    }

    private int[] arguments(int call) {
        int pieces = plain.count(1);
        int owners = plain.count(2);
        // Few owners have most herds and rights, so that cover is often met, and often just missed.
        int few = Math.min(3, owners);
        int herds = herdsMade;
        int r = oneOf(rightsMade);
        switch (call) {
            case 0: return new int[] {below(full / 3), full - below(full / 2), below(600), random.nextInt(3)};
            case 1: return new int[] {below(random.nextBoolean() ? 30 : 3000)};
            case 2: return new int[] {oneOf(owners)};
            case 3: return new int[] {below(10), below(10), below(random.nextBoolean() ? 20 : 300)};
            case 4: return new int[] {dayAhead(30), below(10), below(10)};
            case 5: return new int[] {random.nextBoolean() ? 0 : below(4), oneOf(few), 1 + below(random.nextBoolean() ? 200 : 3000),
                dayAhead(random.nextBoolean() ? 40 : 400), oneOf(pieces)};
            case 6: return new int[] {r, oneOf(owners), 1 + below(150), dayAhead(random.nextBoolean() ? 20 : 200)};
            case 7: return new int[] {r, oneOf(owners)};
            case 8: return new int[] {oneOf(plain.count(3)), oneOf(owners)};
            case 9: return new int[] {oneOf(few), below(3), 1 + below(random.nextInt(4) > 0 ? 8 : 100)};
            case 10: return new int[] {oneOf(herds), oneOf(pieces)};
            case 11: return new int[] {oneOf(herds), oneOf(pieces + 1) - 1};
            case 14: return new int[] {oneOf(pieces), below(3)};
            case 15: return new int[] {1 + below(pace == 0 ? 3 : pace == 1 ? 10 : pace == 2 ? 40 : 130)};
            case 16: return new int[] {oneOf(pieces), dayAhead(12)};
            case 17: return new int[] {oneOf(pieces)};
            case 19: return new int[] {random.nextInt(3) == 0 ? oneOf(herds) : inPound()};
            case 20: return planArguments(herds);
            case 21: return new int[] {below(5), below(2)};
            case 22: return new int[] {oneOf(pieces), below(7)};
            case 23: return new int[] {r, below(9)};
            case 24: return new int[] {oneOf(herds), below(7)};
            case 25: return new int[] {oneOf(owners + 1) - 1, below(4)};
            case 26: return new int[] {below(18)};
            default: return new int[] {oneOf(call < 15 ? owners : herds)};
        }
    }

    private int inPound() {
        for (int h = 0; h < herdsMade; h++) {
            if (plain.herdOf(h, 5) == 1) {
                return h;
            }
        }
        return oneOf(herdsMade);
    }

    private int[] planArguments(int herds) {
        boolean one = random.nextBoolean();
        return new int[] {oneOf(herds), one ? -1 : oneOf(herds), 1 + below(one ? 4 : 2), 1 + below(random.nextBoolean() ? 3 : 10)};
    }

    private int askBook(int call, int[] a) {
        switch (call) {
            case 0: return book.piece(a[0], a[1], a[2], a[3] > 0);
            case 1: return book.owner(a[0]);
            case 2: return book.house(a[0]);
            case 3: return book.rate(a[0], a[1], a[2]);
            case 4: return book.weather(a[0], a[1], a[2]);
            case 5: return book.right(a[0], a[1], a[2], a[3], a[4]);
            case 6: return book.lend(a[0], a[1], a[2], a[3]);
            case 7: return book.sell(a[0], a[1]);
            case 8: return book.move(a[0], a[1]);
            case 9: return book.herd(a[0], a[1], a[2]);
            case 10: return book.put(a[0], a[1]);
            case 11: return book.drive(a[0], a[1]);
            case 12: return book.covered(a[0]);
            case 13: return book.lacks(a[0]);
            case 14: return book.over(a[0], a[1]);
            case 15: return book.pass(a[0]);
            case 16: return book.rest(a[0], a[1]);
            case 17: return book.cut(a[0]);
            case 18: return book.pound(a[0]);
            case 19: return book.free(a[0]);
            case 20: return book.plan(a[0], a[1], a[2], a[3]);
            case 21: return book.planned(a[0], a[1]);
            case 22: return book.pieceOf(a[0], a[1]);
            case 23: return book.rightOf(a[0], a[1]);
            case 24: return book.herdOf(a[0], a[1]);
            case 25: return book.ownerOf(a[0], a[1]);
            default: return book.count(a[0]);
        }
    }

    private int askPlain(int call, int[] a) {
        switch (call) {
            case 0: return plain.piece(a[0], a[1], a[2], a[3] > 0);
            case 1: return plain.owner(a[0]);
            case 2: return plain.house(a[0]);
            case 3: return plain.rate(a[0], a[1], a[2]);
            case 4: return plain.weather(a[0], a[1], a[2]);
            case 5: return plain.right(a[0], a[1], a[2], a[3], a[4]);
            case 6: return plain.lend(a[0], a[1], a[2], a[3]);
            case 7: return plain.sell(a[0], a[1]);
            case 8: return plain.move(a[0], a[1]);
            case 9: return plain.herd(a[0], a[1], a[2]);
            case 10: return plain.put(a[0], a[1]);
            case 11: return plain.drive(a[0], a[1]);
            case 12: return plain.covered(a[0]);
            case 13: return plain.lacks(a[0]);
            case 14: return plain.over(a[0], a[1]);
            case 15: return plain.pass(a[0]);
            case 16: return plain.rest(a[0], a[1]);
            case 17: return plain.cut(a[0]);
            case 18: return plain.pound(a[0]);
            case 19: return plain.free(a[0]);
            case 20: return plain.plan(a[0], a[1], a[2], a[3]);
            case 21: return plain.planned(a[0], a[1]);
            case 22: return plain.pieceOf(a[0], a[1]);
            case 23: return plain.rightOf(a[0], a[1]);
            case 24: return plain.herdOf(a[0], a[1]);
            case 25: return plain.ownerOf(a[0], a[1]);
            default: return plain.count(a[0]);
        }
    }
}
