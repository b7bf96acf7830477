/** The book of a common: its ground, its owners and their rights, its herds, and its days. */
public final class GrazeBook {
    private static final int NOBODY = -1;
    private static final int OTHER = -2;
    private static final int STATE = -3;
    private static final int BELOW = -4;
    private static final int LACK = -5;
    private static final int ROOM = -6;
    private static final int NONE = -9;

    private static final int MOST_PIECES = 6;
    private static final int MOST_OWNERS = 10;
    private static final int MOST_HOUSES = 10;
    private static final int MOST_RIGHTS = 60;
    private static final int MOST_HERDS = 20;
    private static final int MOST_GRASS = 100000;
    private static final int MOST_COINS = 100000;
    private static final int MOST_PARTS = 10000;
    private static final int MOST_RATE = 1000;
    private static final int MOST_BEASTS = 100;
    private static final int LAST_DAY = 720;
    private static final int LAST_REST = 740;

    private static final int GROSS = 0;
    private static final int TIED = 1;
    private static final int WALK = 2;
    private static final int LEAZE = 3;
    private static final int LENT = 4;

    private static final int SORTS = 3;
    private static final int SHEEP = 2;
    private static final int[] PARTS_OF_A_BEAST = {30, 45, 6};

    private static final int OFF = -1;
    private static final int FREE = 0;
    private static final int POUNDED = 1;
    private static final int LOST = 2;

    private static final int TREADING_RAIN = 8;
    private static final int TREADING_PARTS = 100;
    private static final int STUBBLE = 100;
    private static final int HAY_REST = 20;
    private static final int DAYS_IN_POUND = 31;
    private static final int DAYS_TO_LAPSE = 100;

    private static final int NO_HERD = -1;
    private static final int MOST_TURN_DAYS = 10;
    private static final int MOST_STEPS_OF_ONE = 4;
    private static final int MOST_STEPS_OF_TWO = 2;
    private static final int MOST_SLOTS = 4;

    private final Ground[] pieces = new Ground[MOST_PIECES];
    private final Purse[] owners = new Purse[MOST_OWNERS];
    private final Purse reeve = new Purse(0);
    private final int[] houses = new int[MOST_HOUSES];
    private final Claim[] rights = new Claim[MOST_RIGHTS];
    private final Drove[] herds = new Drove[MOST_HERDS];
    private final Year year = new Year();
    private final Cover cover = new Cover();
    private final Grazing grazing = new Grazing();
    private final Turns turns = new Turns();
    private final int[] refusals = new int[1 - ROOM];
    private int pieceCount = 0;
    private int ownerCount = 0;
    private int houseCount = 0;
    private int rightCount = 0;
    private int herdCount = 0;
    private int day = 0;
    private int latestOrder = 0;
    private int lapses = 0;

    public GrazeBook() {
    }

    // ---- what there is

    public int piece(int grass, int full, int bears, boolean water) {
        if (grass < 0 || bears < 0 || full < 1) {
            return refuse(BELOW);
        }
        if (full > MOST_GRASS || grass > full || bears > MOST_PARTS || pieceCount >= MOST_PIECES) {
            return refuse(ROOM);
        }
        pieces[pieceCount] = new Ground(grass, full, bears, water);
        pieceCount++;
        return pieceCount - 1;
    }

    public int owner(int coins) {
        if (coins < 0) {
            return refuse(BELOW);
        }
        if (coins > MOST_COINS || ownerCount >= MOST_OWNERS) {
            return refuse(ROOM);
        }
        owners[ownerCount] = new Purse(coins);
        ownerCount++;
        return ownerCount - 1;
    }

    public int house(int owner) {
        if (!isOwner(owner)) {
            return refuse(NOBODY);
        }
        if (houseCount >= MOST_HOUSES) {
            return refuse(ROOM);
        }
        houses[houseCount] = owner;
        houseCount++;
        return houseCount - 1;
    }

    public int rate(int rain, int warmth, int r) {
        if (!Year.isWeather(rain, warmth)) {
            return refuse(OTHER);
        }
        if (r < 0) {
            return refuse(BELOW);
        }
        if (r > MOST_RATE) {
            return refuse(ROOM);
        }
        return year.changeRate(rain, warmth, r);
    }

    public int weather(int day, int rain, int warmth) {
        if (!Year.isWeather(rain, warmth)) {
            return refuse(OTHER);
        }
        if (day < 0) {
            return refuse(BELOW);
        }
        if (day > LAST_DAY) {
            return refuse(ROOM);
        }
        year.changeWeather(day, rain, warmth);
        return 1;
    }

    // ---- rights

    public int right(int kind, int who, int parts, int to, int x) {
        if (kind < GROSS || kind > LEAZE) {
            return refuse(OTHER);
        }
        if (kind == TIED ? !isHouse(who) : !isOwner(who)) {
            return refuse(NOBODY);
        }
        if (kind == LEAZE && !isPiece(x)) {
            return refuse(NOBODY);
        }
        if (parts < 1 || to < day) {
            return refuse(BELOW);
        }
        if (parts > MOST_PARTS || to > LAST_DAY || rightCount >= MOST_RIGHTS) {
            return refuse(ROOM);
        }
        return addRight(new Claim(kind, who, parts, day, to, kind == LEAZE ? x : NONE, NONE));
    }

    public int lend(int right, int owner, int parts, int to) {
        if (!canPass(right, owner)) {
            return refuse(NOBODY);
        }
        if (rights[right].kind != GROSS) {
            return refuse(OTHER);
        }
        if (!rights[right].isInForce(day)) {
            return refuse(STATE);
        }
        if (parts < 1 || to < day) {
            return refuse(BELOW);
        }
        if (parts > countingParts(right)) {
            return refuse(LACK);
        }
        if (to > rights[right].last || rightCount >= MOST_RIGHTS) {
            return refuse(ROOM);
        }
        return addRight(new Claim(LENT, owner, parts, day, to, NONE, right));
    }

    public int sell(int right, int owner) {
        if (!canPass(right, owner)) {
            return refuse(NOBODY);
        }
        if (rights[right].kind != GROSS) {
            return refuse(OTHER);
        }
        if (!rights[right].isInForce(day)) {
            return refuse(STATE);
        }
        rights[right].who = owner;
        return 1;
    }

    public int move(int house, int owner) {
        if (!isHouse(house) || !isOwner(owner) || houses[house] == owner) {
            return refuse(NOBODY);
        }
        houses[house] = owner;
        return 1;
    }

    // ---- herds

    public int herd(int owner, int sort, int n) {
        if (!isOwner(owner)) {
            return refuse(NOBODY);
        }
        if (sort < 0 || sort >= SORTS) {
            return refuse(OTHER);
        }
        if (n < 1) {
            return refuse(BELOW);
        }
        if (n > MOST_BEASTS || herdCount >= MOST_HERDS) {
            return refuse(ROOM);
        }
        herds[herdCount] = new Drove(owner, sort, n);
        herdCount++;
        return herdCount - 1;
    }

    public int put(int herd, int piece) {
        if (!isHerd(herd) || !isPiece(piece)) {
            return refuse(NOBODY);
        }
        Drove drove = herds[herd];
        if (drove.state != FREE || drove.piece != OFF || pieces[piece].restsOn(day)) {
            return refuse(STATE);
        }
        drove.piece = piece;
        if (lackOf(drove.owner) > 0) {
            drove.piece = OFF;
            return refuse(LACK);
        }
        latestOrder++;
        drove.order = latestOrder;
        return 1;
    }

    public int drive(int herd, int to) {
        if (!isHerd(herd) || to != OFF && !isPiece(to)) {
            return refuse(NOBODY);
        }
        Drove drove = herds[herd];
        int from = drove.piece;
        if (from == OFF || from == to || to != OFF && pieces[to].restsOn(day)) {
            return refuse(STATE);
        }
        drove.piece = to;
        latestOrder++;
        drove.order = latestOrder;
        return from;
    }

    public int covered(int owner) {
        if (!isOwner(owner)) {
            return refuse(NOBODY);
        }
        return lackOf(owner) == 0 ? 1 : 0;
    }

    public int lacks(int owner) {
        if (!isOwner(owner)) {
            return refuse(NOBODY);
        }
        return lackOf(owner);
    }

    public int over(int piece, int i) {
        if (!isPiece(piece)) {
            return refuse(NOBODY);
        }
        int parts = partsOn(piece);
        int herd = latestOn(piece, latestOrder + 1);
        for (int k = 0; k < i && k < MOST_HERDS && herd != NO_HERD; k++) {
            parts -= herds[herd].parts();
            herd = latestOn(piece, herds[herd].order);
        }
        return i >= 0 && herd != NO_HERD && parts > pieces[piece].bears ? herd : NONE;
    }

    // ---- days

    public int pass(int n) {
        if (n < 1) {
            return refuse(BELOW);
        }
        if (n > LAST_DAY - day) {
            return refuse(ROOM);
        }
        int hunger = 0;
        for (int i = 0; i < n; i++) {
            day++;
            hunger += grazeAll();
            sellFromPound();
            findUsed();
            lapse();
        }
        return hunger;
    }

    public int rest(int piece, int to) {
        if (!isPiece(piece)) {
            return refuse(NOBODY);
        }
        if (to < day) {
            return refuse(BELOW);
        }
        if (to > LAST_REST) {
            return refuse(ROOM);
        }
        int before = pieces[piece].rest;
        pieces[piece].rest = to;
        return before;
    }

    public int cut(int piece) {
        if (!isPiece(piece)) {
            return refuse(NOBODY);
        }
        Ground ground = pieces[piece];
        if (ground.restsOn(day) || herdsOn(piece) > 0) {
            return refuse(STATE);
        }
        int hay = Math.max(0, ground.grass - STUBBLE);
        ground.grass -= hay;
        ground.rest = day + HAY_REST;
        shareHay(piece, hay);
        return hay;
    }

    public int pound(int herd) {
        if (!isHerd(herd)) {
            return refuse(NOBODY);
        }
        Drove drove = herds[herd];
        if (drove.piece == OFF || lackOf(drove.owner) == 0) {
            return refuse(STATE);
        }
        drove.piece = OFF;
        drove.state = POUNDED;
        drove.poundedOn = day;
        return 1;
    }

    public int free(int herd) {
        if (!isHerd(herd)) {
            return refuse(NOBODY);
        }
        Drove drove = herds[herd];
        if (drove.state != POUNDED) {
            return refuse(STATE);
        }
        int fee = drove.fee(day);
        Purse purse = owners[drove.owner];
        if (purse.coins < fee) {
            return refuse(LACK);
        }
        purse.coins -= fee;
        reeve.coins += fee;
        drove.state = FREE;
        return fee;
    }

    // ---- turns

    public int plan(int herd, int other, int steps, int days) {
        if (!isHerd(herd) || herd == other || other != NO_HERD && !isHerd(other)) {
            return refuse(NOBODY);
        }
        int mostSteps = other == NO_HERD ? MOST_STEPS_OF_ONE : MOST_STEPS_OF_TWO;
        if (steps < 1 || steps > mostSteps || days < 1 || days > MOST_TURN_DAYS) {
            return refuse(OTHER);
        }
        if (herds[herd].state != FREE || other != NO_HERD && herds[other].state != FREE) {
            return refuse(STATE);
        }
        for (int step = 0; step < steps; step++) {
            if (openPieces(day + 1 + step * days) == 0) {
                return refuse(STATE);
            }
        }
        if (day + steps * days > LAST_DAY) {
            return refuse(ROOM);
        }
        turns.begin(herd, other, steps, days);
        reckonTurns();
        return turns.choose(pieceCount);
    }

    public int planned(int step, int which) {
        return turns.pieceOfStep(step, which);
    }

    // ---- what is asked

    public int pieceOf(int piece, int what) {
        if (!isPiece(piece)) {
            return refuse(NOBODY);
        }
        Ground ground = pieces[piece];
        switch (what) {
            case 0: return ground.grass;
            case 1: return ground.full;
            case 2: return ground.bears;
            case 3: return ground.rest;
            case 4: return partsOn(piece);
            case 5: return herdsOn(piece);
            case 6: return ground.eaten;
            default: return refuse(OTHER);
        }
    }

    public int rightOf(int right, int what) {
        if (!isRight(right)) {
            return refuse(NOBODY);
        }
        Claim claim = rights[right];
        switch (what) {
            case 0: return claim.kind;
            case 1: return holder(claim);
            case 2: return countingParts(right);
            case 3: return claim.first;
            case 4: return claim.last;
            case 5: return claim.gone ? 1 : 0;
            case 6: return claim.isInForce(day) ? 1 : 0;
            case 7: return claim.source;
            case 8: return claim.usedOn;
            default: return refuse(OTHER);
        }
    }

    public int herdOf(int herd, int what) {
        if (!isHerd(herd)) {
            return refuse(NOBODY);
        }
        Drove drove = herds[herd];
        switch (what) {
            case 0: return drove.owner;
            case 1: return drove.sort;
            case 2: return drove.beasts;
            case 3: return drove.piece;
            case 4: return drove.hunger;
            case 5: return drove.state;
            case 6: return drove.fee(day);
            default: return refuse(OTHER);
        }
    }

    public int ownerOf(int owner, int what) {
        boolean ofReeve = owner == -1;
        if (!ofReeve && !isOwner(owner)) {
            return refuse(NOBODY);
        }
        Purse purse = ofReeve ? reeve : owners[owner];
        switch (what) {
            case 0: return purse.coins;
            case 1: return purse.hay;
            case 2: return coverOf(owner).partsOut();
            case 3: return coverOf(owner).partsHeld();
            default: return refuse(OTHER);
        }
    }

    public int count(int what) {
        switch (what) {
            case 0: return day;
            case 1: return pieceCount;
            case 2: return ownerCount;
            case 3: return houseCount;
            case 4: return rightsInForce();
            case 5: return herdsNotLost();
            case 6: return allGrass();
            case 7: return allHunger();
            case 8: return allEaten();
            case 9: return lapses;
            default: return what >= 11 && what <= 16 ? refusals[what - 10] : NONE;
        }
    }

    // ---- numbers that are told

    private int refuse(int why) {
        if (why < 0 && why >= ROOM) {
            refusals[-why]++;
        }
        return why;
    }

    private boolean isPiece(int piece) {
        return piece >= 0 && piece < pieceCount;
    }

    private boolean isOwner(int owner) {
        return owner >= 0 && owner < ownerCount;
    }

    private boolean isHouse(int house) {
        return house >= 0 && house < houseCount;
    }

    private boolean isRight(int right) {
        return right >= 0 && right < rightCount;
    }

    private boolean isHerd(int herd) {
        return herd >= 0 && herd < herdCount;
    }

    // ---- rights and what they cover

    private int addRight(Claim claim) {
        rights[rightCount] = claim;
        rightCount++;
        return rightCount - 1;
    }

    /** Whether there are such a right and such an owner, and the owner is not the one who has it. */
    private boolean canPass(int right, int owner) {
        return isRight(right) && isOwner(owner) && holder(rights[right]) != owner;
    }

    private int holder(Claim claim) {
        if (claim.kind != TIED) {
            return claim.who;
        }
        return isHouse(claim.who) ? houses[claim.who] : NONE;
    }

    private int countingParts(int right) {
        if (!rights[right].isInForce(day)) {
            return 0;
        }
        int parts = rights[right].parts;
        // Only a gross right is lent out of, and only after it was made.
        for (int r = right + 1; r < rightCount && rights[right].kind == GROSS; r++) {
            if (rights[r].source == right && rights[r].isInForce(day)) {
                parts -= rights[r].parts;
            }
        }
        return parts;
    }

    private Cover coverOf(int owner) {
        cover.clear();
        for (int h = 0; h < herdCount; h++) {
            if (herds[h].owner == owner) {
                cover.addHerd(herds[h]);
            }
        }
        for (int r = 0; r < rightCount; r++) {
            if (holder(rights[r]) == owner) {
                cover.addRight(rights[r], countingParts(r));
            }
        }
        return cover;
    }

    private int lackOf(int owner) {
        return coverOf(owner).lack();
    }

    private int rightsInForce() {
        int number = 0;
        for (int r = 0; r < rightCount; r++) {
            if (rights[r].isInForce(day)) {
                number++;
            }
        }
        return number;
    }

    // ---- herds on the ground

    private int partsOn(int piece) {
        int parts = 0;
        for (int h = 0; h < herdCount; h++) {
            if (herds[h].piece == piece) {
                parts += herds[h].parts();
            }
        }
        return parts;
    }

    private int herdsOn(int piece) {
        int number = 0;
        for (int h = 0; h < herdCount; h++) {
            if (herds[h].piece == piece) {
                number++;
            }
        }
        return number;
    }

    /** The herd that went onto a piece last of those that went there ahead of an order. */
    private int latestOn(int piece, int before) {
        int latest = NO_HERD;
        for (int h = 0; h < herdCount; h++) {
            boolean fits = herds[h].piece == piece && herds[h].order < before;
            if (fits && (latest == NO_HERD || herds[h].order > herds[latest].order)) {
                latest = h;
            }
        }
        return latest;
    }

    private int herdsNotLost() {
        int number = 0;
        for (int h = 0; h < herdCount; h++) {
            if (herds[h].state != LOST) {
                number++;
            }
        }
        return number;
    }

    private int allGrass() {
        int sum = 0;
        for (int p = 0; p < pieceCount; p++) {
            sum += pieces[p].grass;
        }
        return sum;
    }

    private int allHunger() {
        int sum = 0;
        for (int h = 0; h < herdCount; h++) {
            sum += herds[h].hunger;
        }
        return sum;
    }

    private int allEaten() {
        int sum = 0;
        for (int p = 0; p < pieceCount; p++) {
            sum += pieces[p].eaten;
        }
        return sum;
    }

    // ---- how a day passes

    private int grazeAll() {
        int hunger = 0;
        for (int p = 0; p < pieceCount; p++) {
            hunger += graze(p);
        }
        return hunger;
    }

    private int graze(int piece) {
        grazing.clear();
        for (int h = 0; h < herdCount; h++) {
            if (herds[h].piece == piece) {
                grazing.add(h, herds[h].parts());
            }
        }
        Ground ground = pieces[piece];
        ground.grass = grazing.passDay(ground, ground.grass, year.rainOn(day), year.rateOn(day));
        ground.eaten += grazing.eaten;
        int sum = 0;
        for (int h = 0; h < herdCount; h++) {
            if (herds[h].piece == piece) {
                int hunger = grazing.hungerOf(h);
                herds[h].hunger += hunger;
                sum += hunger;
            }
        }
        return sum;
    }

    private void sellFromPound() {
        for (int h = 0; h < herdCount; h++) {
            Drove drove = herds[h];
            if (drove.state == POUNDED && drove.daysInPound(day) >= DAYS_IN_POUND) {
                int worth = drove.parts();
                int fee = Math.min(worth, drove.fee(day));
                owners[drove.owner].coins += worth - fee;
                reeve.coins += fee;
                drove.state = LOST;
            }
        }
    }

    private void findUsed() {
        for (int r = 0; r < rightCount; r++) {
            Claim claim = rights[r];
            if (claim.isInForce(day) && hasHerdFor(claim) && countingParts(r) > 0) {
                claim.usedOn = day;
                if (isRight(claim.source)) {
                    rights[claim.source].usedOn = day;
                }
            }
        }
    }

    private boolean hasHerdFor(Claim claim) {
        int owner = holder(claim);
        for (int h = 0; h < herdCount; h++) {
            if (herds[h].owner == owner && claim.fits(herds[h])) {
                return true;
            }
        }
        return false;
    }

    private void lapse() {
        for (int r = 0; r < rightCount; r++) {
            Claim claim = rights[r];
            boolean old = day - claim.first >= DAYS_TO_LAPSE;
            if (old && claim.isInForce(day) && claim.usedOn <= day - DAYS_TO_LAPSE) {
                claim.gone = true;
                lapses++;
            }
        }
    }

    // ---- hay

    private void shareHay(int piece, int hay) {
        int all = 0;
        for (int o = 0; o < ownerCount; o++) {
            all += coverOf(o).partsForHay(piece);
        }
        int left = hay;
        for (int o = 0; o < ownerCount && all > 0; o++) {
            int share = (int) ((long) hay * coverOf(o).partsForHay(piece) / all);
            owners[o].hay += share;
            left -= share;
        }
        reeve.hay += left;
    }

    // ---- turns of herds

    /** The pieces that don't rest on a day, a bit each. */
    private int openPieces(int onDay) {
        int open = 0;
        for (int p = 0; p < pieceCount; p++) {
            if (!pieces[p].restsOn(onDay)) {
                open |= 1 << p;
            }
        }
        return open;
    }

    private void reckonTurns() {
        for (int step = 0; step < turns.steps; step++) {
            turns.open[step] = openPieces(day + 1 + step * turns.days);
        }
        for (int p = 0; p < pieceCount; p++) {
            for (int visits = 0; visits < turns.waysToVisit(); visits++) {
                turns.hunger[p][visits] = visits == 0 ? 0 : hungerOfVisits(p, visits);
            }
        }
    }

    /** What the turning herds hunger on a piece, if they are there in just these steps. */
    private int hungerOfVisits(int piece, int visits) {
        Ground ground = pieces[piece];
        int grass = ground.grass;
        int sum = 0;
        int onDay = day;
        for (int step = 0; step < turns.steps; step++) {
            gatherForStep(piece, visits, step);
            for (int i = 0; i < turns.days; i++) {
                onDay++;
                grass = grazing.passDay(ground, grass, year.rainOn(onDay), year.rateOn(onDay));
                sum += grazing.hungerOf(turns.firstHerd) + grazing.hungerOf(turns.secondHerd);
            }
        }
        return sum;
    }

    private void gatherForStep(int piece, int visits, int step) {
        grazing.clear();
        for (int h = 0; h < herdCount; h++) {
            boolean there = turns.isTurning(h) ? turns.visitsIn(visits, step, h) : herds[h].piece == piece;
            if (there) {
                grazing.add(h, herds[h].parts());
            }
        }
    }

    /** A piece. */
    private static final class Ground {
        final int full;
        final int bears;
        final boolean water;
        int grass;
        int rest = -1;
        int eaten = 0;

        Ground(int grass, int full, int bears, boolean water) {
            this.grass = grass;
            this.full = full;
            this.bears = bears;
            this.water = water;
        }

        boolean restsOn(int day) {
            return day <= rest;
        }
    }

    /** What an owner, or the reeve, has. */
    private static final class Purse {
        int coins;
        int hay = 0;

        Purse(int coins) {
            this.coins = coins;
        }
    }

    /** A right. */
    private static final class Claim {
        final int kind;
        final int parts;
        final int first;
        final int last;
        /** Of a leaze its piece. */
        final int piece;
        /** Of a lent right the one out of which it is lent. */
        final int source;
        /** Of a tied right its house, of others their owner. */
        int who;
        int usedOn = NONE;
        boolean gone = false;

        Claim(int kind, int who, int parts, int first, int last, int piece, int source) {
            this.kind = kind;
            this.who = who;
            this.parts = parts;
            this.first = first;
            this.last = last;
            this.piece = piece;
            this.source = source;
        }

        boolean isInForce(int day) {
            return !gone && day >= first && day <= last;
        }

        /** Whether its parts could be given out to a herd as it is now. */
        boolean fits(Drove drove) {
            if (drove.piece == OFF) {
                return false;
            }
            if (kind == WALK) {
                return drove.sort == SHEEP;
            }
            return kind != LEAZE || drove.piece == piece;
        }
    }

    /** A herd. */
    private static final class Drove {
        final int owner;
        final int sort;
        final int beasts;
        int piece = OFF;
        int order = 0;
        int hunger = 0;
        int state = FREE;
        int poundedOn = 0;

        Drove(int owner, int sort, int beasts) {
            this.owner = owner;
            this.sort = sort;
            this.beasts = beasts;
        }

        int parts() {
            return sort >= 0 && sort < SORTS ? beasts * PARTS_OF_A_BEAST[sort] : 0;
        }

        int daysInPound(int day) {
            return state == POUNDED ? day - poundedOn + 1 : 0;
        }

        int fee(int day) {
            return daysInPound(day) * beasts;
        }
    }

    /** One owner's parts that are out, and the parts of the rights to which they can be given out. */
    private static final class Cover {
        final int[] sheepOn = new int[MOST_PIECES];
        final int[] othersOn = new int[MOST_PIECES];
        final int[] leazesFor = new int[MOST_PIECES];
        int walks = 0;
        int forAny = 0;

        void clear() {
            for (int p = 0; p < MOST_PIECES; p++) {
                sheepOn[p] = 0;
                othersOn[p] = 0;
                leazesFor[p] = 0;
            }
            walks = 0;
            forAny = 0;
        }

        void addHerd(Drove drove) {
            if (drove.piece < 0 || drove.piece >= MOST_PIECES) {
                return;
            }
            if (drove.sort == SHEEP) {
                sheepOn[drove.piece] += drove.parts();
            } else {
                othersOn[drove.piece] += drove.parts();
            }
        }

        void addRight(Claim claim, int parts) {
            if (claim.kind == WALK) {
                walks += parts;
            } else if (claim.kind != LEAZE) {
                forAny += parts;
            } else if (claim.piece >= 0 && claim.piece < MOST_PIECES) {
                leazesFor[claim.piece] += parts;
            }
        }

        /** How many parts no right can take, in whatever way they are given out. */
        int lack() {
            int othersLeft = 0;
            int sheepLeft = 0;
            for (int p = 0; p < MOST_PIECES; p++) {
                // Sheep may yet go to a walk, other beasts may not: so a leaze is theirs first.
                int leazeLeft = Math.max(0, leazesFor[p] - othersOn[p]);
                othersLeft += Math.max(0, othersOn[p] - leazesFor[p]);
                sheepLeft += Math.max(0, sheepOn[p] - leazeLeft);
            }
            return Math.max(0, othersLeft + Math.max(0, sheepLeft - walks) - forAny);
        }

        int partsOut() {
            int parts = 0;
            for (int p = 0; p < MOST_PIECES; p++) {
                parts += sheepOn[p] + othersOn[p];
            }
            return parts;
        }

        int partsHeld() {
            int parts = walks + forAny;
            for (int p = 0; p < MOST_PIECES; p++) {
                parts += leazesFor[p];
            }
            return parts;
        }

        int partsForHay(int piece) {
            return forAny + (piece >= 0 && piece < MOST_PIECES ? leazesFor[piece] : 0);
        }
    }

    /** The weather of each day, and what grows by it. */
    private static final class Year {
        private static final int KINDS = 10;
        final int[] rates = new int[KINDS * KINDS];
        /** Rain and warmth of a day in one number, which is also the place of its rate. */
        final int[] skies = new int[LAST_DAY + 1];

        static boolean isWeather(int rain, int warmth) {
            return rain >= 0 && rain < KINDS && warmth >= 0 && warmth < KINDS;
        }

        int changeRate(int rain, int warmth, int r) {
            if (!isWeather(rain, warmth)) {
                return NONE;
            }
            int before = rates[rain * KINDS + warmth];
            rates[rain * KINDS + warmth] = r;
            return before;
        }

        void changeWeather(int day, int rain, int warmth) {
            if (isWeather(rain, warmth) && day >= 0 && day <= LAST_DAY) {
                skies[day] = rain * KINDS + warmth;
            }
        }

        int rainOn(int day) {
            return day >= 0 && day <= LAST_DAY ? skies[day] / KINDS : 0;
        }

        int rateOn(int day) {
            return day >= 0 && day <= LAST_DAY ? rates[skies[day]] : 0;
        }
    }

    /** The herds on one piece, by their numbers, and what one day there does to them and to the grass. */
    private static final class Grazing {
        final int[] numbers = new int[MOST_HERDS];
        final int[] partsOf = new int[MOST_HERDS];
        final int[] hungers = new int[MOST_HERDS];
        final int[] remainders = new int[MOST_HERDS];
        int size = 0;
        int all = 0;
        int eaten = 0;

        void clear() {
            size = 0;
            all = 0;
            eaten = 0;
        }

        /** The lesser numbers are to come first. */
        void add(int herd, int parts) {
            if (size < MOST_HERDS) {
                numbers[size] = herd;
                partsOf[size] = parts;
                hungers[size] = 0;
                all += parts;
                size++;
            }
        }

        /** The hunger of a herd on the latest day, 0 if it is not there. */
        int hungerOf(int herd) {
            for (int i = 0; i < size; i++) {
                if (numbers[i] == herd) {
                    return hungers[i];
                }
            }
            return 0;
        }

        /** Answers the grass that is left of so much. */
        int passDay(Ground ground, int grass, int rain, int rate) {
            int grown = grow(tread(grass, rain), ground.full, rate);
            eaten = Math.min(grown, all);
            shareHunger(all - eaten);
            if (!ground.water) {
                for (int i = 0; i < size; i++) {
                    hungers[i] += partsOf[i];
                }
            }
            return grown - eaten;
        }

        private int tread(int grass, int rain) {
            return rain >= TREADING_RAIN ? Math.max(0, grass - all / TREADING_PARTS) : grass;
        }

        private static int grow(int grass, int full, int rate) {
            return Math.min(full, grass + Math.max(1, rate * full / 1000));
        }

        private void shareHunger(int lack) {
            int left = lack;
            for (int i = 0; i < size && all > 0; i++) {
                // At most 90000 parts lack and a herd has 4500 at most, so an int holds it.
                int wanted = lack * partsOf[i];
                hungers[i] = wanted / all;
                remainders[i] = wanted % all;
                left -= hungers[i];
            }
            for (int k = 0; k < size && left > 0; k++) {
                int i = greatestRemainder();
                hungers[i]++;
                remainders[i] = 0;
                left--;
            }
        }

        private int greatestRemainder() {
            int greatest = 0;
            for (int i = 1; i < size; i++) {
                if (remainders[i] > remainders[greatest]) {
                    greatest = i;
                }
            }
            return greatest;
        }
    }

    /**
     * The turns of one herd or two. Pieces don't touch one another, so what the herds hunger on
     * a piece hangs only on who is there in which steps: that is reckoned once for each piece and
     * each set of visits (a bit for each slot, which is a step and a herd), and a plan's hunger
     * is a sum of these.
     */
    private static final class Turns {
        final int[][] hunger = new int[MOST_PIECES][1 << MOST_SLOTS];
        final int[] open = new int[MOST_STEPS_OF_ONE];
        final int[] trial = new int[MOST_SLOTS];
        final int[] best = new int[MOST_SLOTS];
        final int[] visitsOf = new int[MOST_PIECES];
        int firstHerd = NO_HERD;
        int secondHerd = NO_HERD;
        int width = 1;
        int steps = 0;
        int days = 0;

        void begin(int herd, int other, int stepCount, int dayCount) {
            firstHerd = herd;
            secondHerd = other;
            width = other == NO_HERD ? 1 : 2;
            steps = stepCount;
            days = dayCount;
        }

        boolean isTurning(int herd) {
            return herd == firstHerd || herd == secondHerd;
        }

        int slots() {
            return Math.min(MOST_SLOTS, width * steps);
        }

        int waysToVisit() {
            return 1 << slots();
        }

        boolean visitsIn(int visits, int step, int herd) {
            int slot = step * width + (herd == firstHerd ? 0 : 1);
            return ((visits >> slot) & 1) == 1;
        }

        int pieceOfStep(int step, int which) {
            if (step < 0 || step >= steps || which < 0 || which >= width) {
                return NONE;
            }
            return best[step * width + which];
        }

        /** Answers the least hunger; trials go from the first plan on, so of several the first one stays. */
        int choose(int pieceCount) {
            int least = NONE;
            int trials = 1;
            for (int slot = 0; slot < slots(); slot++) {
                trial[slot] = 0;
                trials *= pieceCount;
            }
            for (int i = 0; i < trials; i++) {
                if (isOpen()) {
                    int sum = hungerOfTrial();
                    if (least == NONE || sum < least) {
                        least = sum;
                        System.arraycopy(trial, 0, best, 0, MOST_SLOTS);
                    }
                }
                nextTrial(pieceCount);
            }
            return least;
        }

        private boolean isOpen() {
            for (int step = 0; step < steps; step++) {
                for (int k = 0; k < width; k++) {
                    if (((open[step] >> trial[step * width + k]) & 1) == 0) {
                        return false;
                    }
                }
            }
            return true;
        }

        private int hungerOfTrial() {
            for (int p = 0; p < MOST_PIECES; p++) {
                visitsOf[p] = 0;
            }
            for (int slot = 0; slot < slots(); slot++) {
                visitsOf[trial[slot]] |= 1 << slot;
            }
            int sum = 0;
            for (int p = 0; p < MOST_PIECES; p++) {
                // A piece that nobody visits, made or not, adds nothing.
                sum += visitsOf[p] == 0 ? 0 : hunger[p][visitsOf[p]];
            }
            return sum;
        }

        private void nextTrial(int pieceCount) {
            for (int slot = slots() - 1; slot >= 0; slot--) {
                trial[slot]++;
                if (trial[slot] < pieceCount) {
                    return;
                }
                trial[slot] = 0;
            }
        }
    }
}
