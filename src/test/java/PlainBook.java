import java.util.ArrayList;
import java.util.Arrays;
import java.util.HashMap;
import java.util.List;
import java.util.Map;

/**
 * A second book, written another way than GrazeBook, for runs of both side by side: cover is a
 * greatest flow, a plan is each possible plan lived through on copies, a day passes in the
 * document's five stages over all pieces. Slow and plain on purpose.
 */
final class PlainBook {
    private static final class Ground {
        int grass;
        int full;
        int bears;
        boolean water;
        int rest = -1;
        int eaten;
    }

    private static final class Claim {
        int kind;
        int who;
        int parts;
        int from;
        int to;
        int place = -9;
        Claim source;
        boolean gone;
        int used = -9;
    }

    private static final class Beasts {
        int number;
        int owner;
        int sort;
        int n;
        int at = -1;
        int hunger;
        int state;
        int since;

        int parts() {
            return n * (sort == 0 ? 30 : sort == 1 ? 45 : 6);
        }
    }

    private final List<Ground> ground = new ArrayList<>();
    private final List<int[]> purses = new ArrayList<>();
    private final int[] reeve = new int[2];
    private final List<Integer> houseOwners = new ArrayList<>();
    private final List<Claim> claims = new ArrayList<>();
    private final List<Beasts> beasts = new ArrayList<>();
    /** All herds that are out, in the order in which they went where they are. */
    private final List<Beasts> arrivals = new ArrayList<>();
    private final int[][] rates = new int[10][10];
    private final int[][] sky = new int[721][2];
    private final Map<Integer, Integer> refused = new HashMap<>();
    private int[][] latestPlan = new int[0][0];
    private int now;
    private int lapsed;
    private int hungerOfAll;

    private int no(int why) {
        refused.merge(why, 1, Integer::sum);
        return why;
    }

    private static boolean has(List<?> list, int i) {
        return 0 <= i && i < list.size();
    }

    int piece(int grass, int full, int bears, boolean water) {
        if (Math.min(grass, bears) < 0 || full <= 0) {
            return no(-4);
        }
        if (full > 100_000 || grass > full || bears > 10_000 || ground.size() == 6) {
            return no(-6);
        }
        Ground g = new Ground();
        g.grass = grass;
        g.full = full;
        g.bears = bears;
        g.water = water;
        ground.add(g);
        return ground.size() - 1;
    }

    int owner(int coins) {
        if (coins < 0) {
            return no(-4);
        }
        if (coins > 100_000 || purses.size() == 10) {
            return no(-6);
        }
        purses.add(new int[] {coins, 0});
        return purses.size() - 1;
    }

    int house(int owner) {
        if (!has(purses, owner)) {
            return no(-1);
        }
        if (houseOwners.size() == 10) {
            return no(-6);
        }
        houseOwners.add(owner);
        return houseOwners.size() - 1;
    }

    private static boolean digits(int a, int b) {
        return 0 <= a && a <= 9 && 0 <= b && b <= 9;
    }

    int rate(int rain, int warmth, int r) {
        if (!digits(rain, warmth)) {
            return no(-2);
        }
        if (r < 0) {
            return no(-4);
        }
        if (r > 1000) {
            return no(-6);
        }
        int was = rates[rain][warmth];
        rates[rain][warmth] = r;
        return was;
    }

    int weather(int day, int rain, int warmth) {
        if (!digits(rain, warmth)) {
            return no(-2);
        }
        if (day < 0) {
            return no(-4);
        }
        if (day > 720) {
            return no(-6);
        }
        sky[day] = new int[] {rain, warmth};
        return 1;
    }

    private int ownerOfClaim(Claim c) {
        return c.kind == 1 ? houseOwners.get(c.who) : c.who;
    }

    private boolean inForce(Claim c) {
        return !c.gone && c.from <= now && now <= c.to;
    }

    private int counts(Claim c) {
        if (!inForce(c)) {
            return 0;
        }
        return c.parts - claims.stream().filter(l -> l.source == c && inForce(l)).mapToInt(l -> l.parts).sum();
    }

    private int newClaim(int kind, int who, int parts, int to, int place, Claim source) {
        Claim c = new Claim();
        c.kind = kind;
        c.who = who;
        c.parts = parts;
        c.from = now;
        c.to = to;
        c.place = place;
        c.source = source;
        claims.add(c);
        return claims.size() - 1;
    }

    int right(int kind, int who, int parts, int to, int x) {
        if (kind < 0 || kind > 3) {
            return no(-2);
        }
        if (!has(kind == 1 ? houseOwners : purses, who) || kind == 3 && !has(ground, x)) {
            return no(-1);
        }
        if (parts < 1 || to < now) {
            return no(-4);
        }
        if (parts > 10_000 || to > 720 || claims.size() == 60) {
            return no(-6);
        }
        return newClaim(kind, who, parts, to, kind == 3 ? x : -9, null);
    }

    int lend(int right, int owner, int parts, int to) {
        if (!has(claims, right) || !has(purses, owner) || ownerOfClaim(claims.get(right)) == owner) {
            return no(-1);
        }
        Claim c = claims.get(right);
        if (c.kind != 0) {
            return no(-2);
        }
        if (!inForce(c)) {
            return no(-3);
        }
        if (parts < 1 || to < now) {
            return no(-4);
        }
        if (counts(c) < parts) {
            return no(-5);
        }
        if (to > c.to || claims.size() == 60) {
            return no(-6);
        }
        return newClaim(4, owner, parts, to, -9, c);
    }

    int sell(int right, int owner) {
        if (!has(claims, right) || !has(purses, owner) || ownerOfClaim(claims.get(right)) == owner) {
            return no(-1);
        }
        if (claims.get(right).kind != 0) {
            return no(-2);
        }
        if (!inForce(claims.get(right))) {
            return no(-3);
        }
        claims.get(right).who = owner;
        return 1;
    }

    int move(int house, int owner) {
        if (!has(houseOwners, house) || !has(purses, owner) || houseOwners.get(house) == owner) {
            return no(-1);
        }
        houseOwners.set(house, owner);
        return 1;
    }

    int herd(int owner, int sort, int n) {
        if (!has(purses, owner)) {
            return no(-1);
        }
        if (sort < 0 || sort > 2) {
            return no(-2);
        }
        if (n < 1) {
            return no(-4);
        }
        if (n > 100 || beasts.size() == 20) {
            return no(-6);
        }
        Beasts b = new Beasts();
        b.number = beasts.size();
        b.owner = owner;
        b.sort = sort;
        b.n = n;
        beasts.add(b);
        return b.number;
    }

    private boolean rests(int piece, int day) {
        return day <= ground.get(piece).rest;
    }

    private void goTo(Beasts b, int place) {
        arrivals.remove(b);
        b.at = place;
        if (place >= 0) {
            arrivals.add(b);
        }
    }

    int put(int herd, int piece) {
        if (!has(beasts, herd) || !has(ground, piece)) {
            return no(-1);
        }
        Beasts b = beasts.get(herd);
        if (b.state != 0 || b.at != -1 || rests(piece, now)) {
            return no(-3);
        }
        goTo(b, piece);
        if (uncovered(b.owner) > 0) {
            goTo(b, -1);
            return no(-5);
        }
        return 1;
    }

    int drive(int herd, int to) {
        if (!has(beasts, herd) || to != -1 && !has(ground, to)) {
            return no(-1);
        }
        Beasts b = beasts.get(herd);
        if (b.state != 0 || b.at == -1 || to == b.at || to != -1 && rests(to, now)) {
            return no(-3);
        }
        int was = b.at;
        goTo(b, to);
        return was;
    }

    /** Parts out less the greatest flow from herds to rights, found path by path. */
    private int uncovered(int owner) {
        List<Beasts> out = beasts.stream().filter(b -> b.owner == owner && b.at >= 0).toList();
        List<Claim> mine = claims.stream().filter(c -> ownerOfClaim(c) == owner && inForce(c)).toList();
        int[] need = out.stream().mapToInt(Beasts::parts).toArray();
        int[] room = mine.stream().mapToInt(this::counts).toArray();
        int[][] given = new int[need.length][room.length];
        for (int h = 0; h < need.length; h++) {
            int more = 1;
            while (need[h] > 0 && more > 0) {
                more = push(h, need[h], out, mine, room, given, new boolean[room.length]);
                need[h] -= more;
            }
        }
        return Arrays.stream(need).sum();
    }

    private int push(int h, int want, List<Beasts> out, List<Claim> mine, int[] room, int[][] given, boolean[] seen) {
        for (int r = 0; r < room.length; r++) {
            if (seen[r] || !suits(mine.get(r), out.get(h))) {
                continue;
            }
            seen[r] = true;
            int direct = Math.min(want, room[r]);
            if (direct > 0) {
                room[r] -= direct;
                given[h][r] += direct;
                return direct;
            }
            for (int g = 0; g < given.length; g++) {
                if (g != h && given[g][r] > 0) {
                    int moved = push(g, Math.min(want, given[g][r]), out, mine, room, given, seen);
                    if (moved > 0) {
                        given[g][r] -= moved;
                        given[h][r] += moved;
                        return moved;
                    }
                }
            }
        }
        return 0;
    }

    private static boolean suits(Claim c, Beasts b) {
        return switch (c.kind) {
            case 2 -> b.sort == 2;
            case 3 -> b.at == c.place;
            default -> true;
        };
    }

    int covered(int owner) {
        if (!has(purses, owner)) {
            return no(-1);
        }
        return uncovered(owner) == 0 ? 1 : 0;
    }

    int lacks(int owner) {
        return has(purses, owner) ? uncovered(owner) : no(-1);
    }

    int over(int piece, int i) {
        if (!has(ground, piece)) {
            return no(-1);
        }
        List<Beasts> there = new ArrayList<>(arrivals.stream().filter(b -> b.at == piece).toList());
        List<Integer> tooMany = new ArrayList<>();
        while (there.stream().mapToInt(Beasts::parts).sum() > ground.get(piece).bears) {
            tooMany.add(there.remove(there.size() - 1).number);
        }
        return has(tooMany, i) ? tooMany.get(i) : -9;
    }

    /** One day's growth, eating and water over grass and places that may be copies: the hunger of each herd. */
    private int[] live(int day, int[] grass, int[] at, int[] eatenHere) {
        int[] hunger = new int[at.length];
        for (int p = 0; p < grass.length; p++) {
            int here = p;
            List<Beasts> there = beasts.stream().filter(b -> at[b.number] == here).toList();
            int parts = there.stream().mapToInt(Beasts::parts).sum();
            if (sky[day][0] > 7 && !there.isEmpty()) {
                grass[p] = Math.max(0, grass[p] - parts / 100);
            }
            Ground g = ground.get(p);
            if (grass[p] < g.full) {
                int growth = (int) ((long) rates[sky[day][0]][sky[day][1]] * g.full / 1000);
                grass[p] = Math.min(g.full, grass[p] + (growth < 1 ? 1 : growth));
            }
            int eaten = Math.min(parts, grass[p]);
            grass[p] -= eaten;
            eatenHere[p] += eaten;
            share(parts - eaten, parts, there, hunger);
            if (!g.water) {
                there.forEach(b -> hunger[b.number] += b.parts());
            }
        }
        return hunger;
    }

    private static void share(long lack, int parts, List<Beasts> there, int[] hunger) {
        long left = lack;
        for (Beasts b : there) {
            hunger[b.number] += (int) (lack * b.parts() / parts);
            left -= lack * b.parts() / parts;
        }
        List<Beasts> byRest = new ArrayList<>(there);
        byRest.sort((a, b) -> {
            int rest = Long.compare(lack * b.parts() % parts, lack * a.parts() % parts);
            return rest != 0 ? rest : Integer.compare(a.number, b.number);
        });
        for (int i = 0; i < left; i++) {
            hunger[byRest.get(i).number]++;
        }
    }

    private int[] grassNow() {
        return ground.stream().mapToInt(g -> g.grass).toArray();
    }

    private int[] placesNow() {
        return beasts.stream().mapToInt(b -> b.at).toArray();
    }

    int pass(int n) {
        if (n < 1) {
            return no(-4);
        }
        if (n > 720 || now + n > 720) {
            return no(-6);
        }
        int sum = 0;
        for (int i = 0; i < n; i++) {
            sum += passOne();
        }
        hungerOfAll += sum;
        return sum;
    }

    private int passOne() {
        now++;
        int[] grass = grassNow();
        int[] eaten = new int[grass.length];
        int[] hunger = live(now, grass, placesNow(), eaten);
        for (int p = 0; p < grass.length; p++) {
            ground.get(p).grass = grass[p];
            ground.get(p).eaten += eaten[p];
        }
        for (Beasts b : beasts) {
            b.hunger += hunger[b.number];
            if (b.state == 1 && now == b.since + 30) {
                int fee = 31 * b.n;
                b.state = 2;
                purses.get(b.owner)[0] += Math.max(0, b.parts() - fee);
                reeve[0] += Math.min(fee, b.parts());
            }
        }
        List<Claim> used = new ArrayList<>();
        for (Claim c : claims) {
            boolean herd = beasts.stream().anyMatch(b -> b.at >= 0 && b.owner == ownerOfClaim(c) && suits(c, b));
            if (herd && counts(c) > 0) {
                used.add(c);
                if (c.source != null) {
                    used.add(c.source);
                }
            }
        }
        used.forEach(c -> c.used = now);
        for (Claim c : claims) {
            boolean unused = c.used == -9 || c.used < now - 99;
            if (inForce(c) && c.from + 100 <= now && unused) {
                c.gone = true;
                lapsed++;
            }
        }
        return Arrays.stream(hunger).sum();
    }

    int rest(int piece, int to) {
        if (!has(ground, piece)) {
            return no(-1);
        }
        if (to < now) {
            return no(-4);
        }
        if (to > 740) {
            return no(-6);
        }
        int was = ground.get(piece).rest;
        ground.get(piece).rest = to;
        return was;
    }

    int cut(int piece) {
        if (!has(ground, piece)) {
            return no(-1);
        }
        if (rests(piece, now) || arrivals.stream().anyMatch(b -> b.at == piece)) {
            return no(-3);
        }
        Ground g = ground.get(piece);
        int hay = g.grass > 100 ? g.grass - 100 : 0;
        g.grass -= hay;
        g.rest = now + 20;
        long[] weight = new long[purses.size()];
        for (Claim c : claims) {
            if (c.kind != 2 && (c.kind != 3 || c.place == piece)) {
                weight[ownerOfClaim(c)] += counts(c);
            }
        }
        long all = Arrays.stream(weight).sum();
        int left = hay;
        for (int o = 0; o < weight.length; o++) {
            int part = all == 0 ? 0 : (int) (hay * weight[o] / all);
            purses.get(o)[1] += part;
            left -= part;
        }
        reeve[1] += left;
        return hay;
    }

    int pound(int herd) {
        if (!has(beasts, herd)) {
            return no(-1);
        }
        Beasts b = beasts.get(herd);
        if (b.at < 0 || uncovered(b.owner) == 0) {
            return no(-3);
        }
        goTo(b, -1);
        b.state = 1;
        b.since = now;
        return 1;
    }

    private int fee(Beasts b) {
        return b.state == 1 ? (now - b.since + 1) * b.n : 0;
    }

    int free(int herd) {
        if (!has(beasts, herd)) {
            return no(-1);
        }
        Beasts b = beasts.get(herd);
        if (b.state != 1) {
            return no(-3);
        }
        int fee = fee(b);
        if (purses.get(b.owner)[0] < fee) {
            return no(-5);
        }
        purses.get(b.owner)[0] -= fee;
        reeve[0] += fee;
        b.state = 0;
        return fee;
    }

    int plan(int herd, int other, int steps, int days) {
        if (!has(beasts, herd) || other != -1 && !has(beasts, other) || herd == other) {
            return no(-1);
        }
        if (steps < 1 || steps > (other == -1 ? 4 : 2) || days < 1 || days > 10) {
            return no(-2);
        }
        if (beasts.get(herd).state != 0 || other != -1 && beasts.get(other).state != 0) {
            return no(-3);
        }
        for (int s = 0; s < steps; s++) {
            boolean open = false;
            for (int p = 0; p < ground.size(); p++) {
                open |= !rests(p, now + 1 + s * days);
            }
            if (!open) {
                return no(-3);
            }
        }
        if (now + steps * days > 720) {
            return no(-6);
        }
        int[] herds = other == -1 ? new int[] {herd} : new int[] {herd, other};
        best = Integer.MAX_VALUE;
        tryStep(0, 0, herds, new int[steps][herds.length], days, grassNow(), placesNow());
        return best;
    }

    private int best;

    private void tryStep(int step, int sum, int[] herds, int[][] plan, int days, int[] grass, int[] at) {
        if (step == plan.length) {
            if (sum < best) {
                best = sum;
                latestPlan = new int[plan.length][];
                for (int s = 0; s < plan.length; s++) {
                    latestPlan[s] = plan[s].clone();
                }
            }
            return;
        }
        chooseFor(0, step, sum, herds, plan, days, new int[][] {grass, at});
    }

    private void chooseFor(int k, int step, int sum, int[] herds, int[][] plan, int days, int[][] state) {
        if (k == herds.length) {
            int[] grass = state[0].clone();
            int[] at = state[1].clone();
            for (int i = 0; i < herds.length; i++) {
                at[herds[i]] = plan[step][i];
            }
            int hunger = 0;
            for (int d = 1; d <= days; d++) {
                int[] each = live(now + step * days + d, grass, at, new int[grass.length]);
                for (int h : herds) {
                    hunger += each[h];
                }
            }
            tryStep(step + 1, sum + hunger, herds, plan, days, grass, at);
            return;
        }
        for (int p = 0; p < ground.size(); p++) {
            if (!rests(p, now + 1 + step * days)) {
                plan[step][k] = p;
                chooseFor(k + 1, step, sum, herds, plan, days, state);
            }
        }
    }

    int planned(int step, int which) {
        if (step < 0 || step >= latestPlan.length || which < 0 || which >= latestPlan[step].length) {
            return -9;
        }
        return latestPlan[step][which];
    }

    int pieceOf(int piece, int what) {
        if (!has(ground, piece)) {
            return no(-1);
        }
        if (what < 0 || what > 6) {
            return no(-2);
        }
        Ground g = ground.get(piece);
        List<Beasts> there = beasts.stream().filter(b -> b.at == piece).toList();
        int parts = there.stream().mapToInt(Beasts::parts).sum();
        return new int[] {g.grass, g.full, g.bears, g.rest, parts, there.size(), g.eaten}[what];
    }

    int rightOf(int right, int what) {
        if (!has(claims, right)) {
            return no(-1);
        }
        if (what < 0 || what > 8) {
            return no(-2);
        }
        Claim c = claims.get(right);
        int source = c.source == null ? -9 : claims.indexOf(c.source);
        return new int[] {c.kind, ownerOfClaim(c), counts(c), c.from, c.to, c.gone ? 1 : 0,
            inForce(c) ? 1 : 0, source, c.used}[what];
    }

    int herdOf(int herd, int what) {
        if (!has(beasts, herd)) {
            return no(-1);
        }
        if (what < 0 || what > 6) {
            return no(-2);
        }
        Beasts b = beasts.get(herd);
        return new int[] {b.owner, b.sort, b.n, b.at, b.hunger, b.state, fee(b)}[what];
    }

    int ownerOf(int owner, int what) {
        if (owner != -1 && !has(purses, owner)) {
            return no(-1);
        }
        if (what < 0 || what > 3) {
            return no(-2);
        }
        int[] purse = owner == -1 ? reeve : purses.get(owner);
        int out = arrivals.stream().filter(b -> b.owner == owner).mapToInt(Beasts::parts).sum();
        int held = claims.stream().filter(c -> ownerOfClaim(c) == owner).mapToInt(this::counts).sum();
        return new int[] {purse[0], purse[1], out, held}[what];
    }

    int count(int what) {
        if (what >= 11 && what <= 16) {
            return refused.getOrDefault(10 - what, 0);
        }
        return switch (what) {
            case 0 -> now;
            case 1 -> ground.size();
            case 2 -> purses.size();
            case 3 -> houseOwners.size();
            case 4 -> (int) claims.stream().filter(this::inForce).count();
            case 5 -> (int) beasts.stream().filter(b -> b.state != 2).count();
            case 6 -> Arrays.stream(grassNow()).sum();
            case 7 -> hungerOfAll;
            case 8 -> ground.stream().mapToInt(g -> g.eaten).sum();
            case 9 -> lapsed;
            default -> -9;
        };
    }
}
