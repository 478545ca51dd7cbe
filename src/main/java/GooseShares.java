import java.util.Arrays;

/** Geese by subscription: a land, its flights, members and lamps, and what can be asked of them. */
public final class GooseShares {
    public static final int NONE = -1;

    private static final int NO_SUCH = -2;
    private static final int BELOW_ZERO = -3;
    private static final int FAULTY = -4;
    private static final int NOT_NOW = -5;
    private static final int NOTHING = -6;
    private static final int BEYOND = -7;
    private static final int UNLIKE = -8;
    private static final int NO_GAME = -1000;

    private static final int TAPE_MOST = 800;
    private static final int FLIGHTS = 4;
    private static final int MEMBERS = 6;
    private static final int CELLS = 20;
    private static final int HEADINGS = 4;
    private static final int STEPS = 41;
    private static final int LAWS = 4;
    private static final int LAMPS_MOST = 3;
    private static final int ACTS_MOST = 40;
    private static final int SLOTS = 4;
    private static final int WIDTHS = 4;
    private static final int ROW_MOST = 60;
    private static final int IMAGES = 3;
    private static final int PRICE_MOST = 999;
    private static final int PAYS_MOST = 99;
    private static final int SEED_MOST = 2000000000;
    private static final int NIGHTS_MOST = 20;
    private static final int LAMP_COST = 5;
    private static final int ALL_FLIGHTS = 15;

    private final Tape tape = new Tape();
    private final Land now = new Land();
    private final Reader reader = new Reader(tape, new Land());
    private final Land[] images = new Land[IMAGES];
    private final Row[] rows = new Row[SLOTS];
    private final Sky sky = new Sky(now);
    private final Lanterns lanterns = new Lanterns(now, sky);
    private final Clues clues = new Clues(now, sky);
    private final Houses houses = new Houses(now, sky);
    private final Fog fog = new Fog(now, sky);
    private final boolean[] imaged = new boolean[IMAGES];

    public GooseShares() {
        for (int k = 0; k < IMAGES; k++) {
            images[k] = new Land();
        }
        for (int slot = 0; slot < SLOTS; slot++) {
            rows[slot] = new Row();
        }
    }

    public int feed(int a, int b, int c, int d, int e) {
        if (tape.length + 20 > TAPE_MOST) {
            return NONE;
        }
        tape.append(a);
        tape.append(b);
        tape.append(c);
        tape.append(d);
        tape.append(e);
        return tape.length;
    }

    public int end(int n) {
        if (n < 0 || n > tape.length) {
            return NONE;
        }
        tape.length = n;
        return n;
    }

    public int land() {
        if (!reader.readTape()) {
            return FAULTY;
        }
        tape.length = 0;
        now.become(reader.draft);
        lanterns.forget();
        return now.lines;
    }

    public int fault(int what) {
        if (what == 0) {
            return reader.trouble;
        }
        return what == 1 ? reader.where : NONE;
    }

    public int flight(int flight, int what) {
        if (!now.hasFlight(flight)) {
            return NO_SUCH;
        }
        switch (what) {
            case 0:
                return now.starts[flight];
            case 1:
                return now.headings[flight];
            case 2:
                return now.flocks[flight];
            default:
                return NO_SUCH;
        }
    }

    public int member(int member, int what) {
        if (!now.hasMember(member)) {
            return NO_SUCH;
        }
        switch (what) {
            case 0:
                return now.houses[member];
            case 1:
                return now.wants[member];
            case 2:
                return now.pays[member];
            default:
                return NO_SUCH;
        }
    }

    public int lamps() {
        return now.isNone() ? NO_SUCH : now.lit;
    }

    public int at(int flight, int step) {
        if (!now.hasFlight(flight) || !isStep(step)) {
            return NO_SUCH;
        }
        followNow(flight);
        return sky.cellAt(step);
    }

    public int heads(int flight, int step) {
        if (!now.hasFlight(flight) || !isStep(step)) {
            return NO_SUCH;
        }
        followNow(flight);
        return sky.headingAt(step);
    }

    public int out(int flight) {
        if (!now.hasFlight(flight)) {
            return NO_SUCH;
        }
        followNow(flight);
        return sky.outStep();
    }

    public int bends(int flight) {
        if (!now.hasFlight(flight)) {
            return NO_SUCH;
        }
        followNow(flight);
        return sky.turns;
    }

    public int way(int flight) {
        if (!now.hasFlight(flight)) {
            return NO_SUCH;
        }
        followNow(flight);
        return sky.wayBits();
    }

    public int over(int cell) {
        if (!now.hasCell(cell)) {
            return NO_SUCH;
        }
        return flightsOver(1 << cell);
    }

    public int geese(int cell, int step) {
        if (!now.hasCell(cell) || !isStep(step)) {
            return NO_SUCH;
        }
        return geeseWithin(1 << cell, step);
    }

    public int hears(int member, int flight) {
        if (!now.hasMember(member) || !now.hasFlight(flight)) {
            return NO_SUCH;
        }
        followNow(flight);
        return sky.stepsWithin(now.earshot(member));
    }

    public int heard(int member) {
        if (!now.hasMember(member)) {
            return NO_SUCH;
        }
        passNow();
        return sky.heardIn(now.houses[member]);
    }

    public int ears(int cell) {
        if (!now.hasCell(cell)) {
            return NO_SUCH;
        }
        passNow();
        return sky.heardIn(cell);
    }

    public int loud() {
        if (now.isNone()) {
            return NO_SUCH;
        }
        passNow();
        int found = 0;
        for (int cell = 1; cell < now.cells(); cell++) {
            if (sky.heardIn(cell) > sky.heardIn(found)) {
                found = cell;
            }
        }
        return found;
    }

    public int quiet() {
        if (now.isNone()) {
            return NO_SUCH;
        }
        passNow();
        int bits = 0;
        for (int cell = 0; cell < now.cells(); cell++) {
            if (sky.heardIn(cell) == 0) {
                bits |= 1 << cell;
            }
        }
        return bits;
    }

    public int served() {
        return now.isNone() ? NO_SUCH : servedUnder(now.lit, now.law);
    }

    public int income() {
        return now.isNone() ? NO_SUCH : incomeUnder(now.lit, now.law);
    }

    public int unpaid() {
        return now.isNone() ? NO_SUCH : unpaidBits();
    }

    public int first() {
        if (now.isNone()) {
            return NO_SUCH;
        }
        int cells = earshotOfUnpaid();
        int found = NONE;
        for (int flight = 0; flight < now.flights; flight++) {
            followNow(flight);
            int step = sky.firstWithin(cells);
            if (step != NONE && (found == NONE || step < found)) {
                found = step;
            }
        }
        return found;
    }

    public int lacks() {
        if (now.isNone()) {
            return NO_SUCH;
        }
        passNow();
        int found = NONE;
        int greatest = 0;
        for (int member = 0; member < now.members; member++) {
            int lack = now.wants[member] - sky.heardIn(now.houses[member]);
            if (lack > greatest) {
                greatest = lack;
                found = member;
            }
        }
        return found;
    }

    public int near(int member) {
        if (!now.hasMember(member)) {
            return NO_SUCH;
        }
        return flightsOver(now.earshot(member));
    }

    public int lone() {
        if (now.isNone()) {
            return NO_SUCH;
        }
        passNow();
        return sky.deafBits();
    }

    public int meets(int flight, int other) {
        if (!now.hasFlight(flight) || !now.hasFlight(other)) {
            return NO_SUCH;
        }
        followNow(flight);
        sky.keepTrack();
        followNow(other);
        return sky.firstMeeting();
    }

    public int spare() {
        if (now.isNone()) {
            return NO_SUCH;
        }
        int servedNow = servedUnder(now.lit, now.law);
        int sum = 0;
        for (int member = 0; member < now.members; member++) {
            if (hasBit(servedNow, member)) {
                sum += sky.heardIn(now.houses[member]) - now.wants[member];
            }
        }
        return sum;
    }

    public int calls(int step) {
        if (now.isNone() || !isStep(step)) {
            return NO_SUCH;
        }
        return geeseWithin(now.allCells(), step);
    }

    public int farthest(int flight) {
        if (!now.hasFlight(flight)) {
            return NO_SUCH;
        }
        followNow(flight);
        int bits = sky.wayBits();
        int start = now.starts[flight];
        int found = start;
        for (int cell = 0; cell < now.cells(); cell++) {
            if (hasBit(bits, cell) && now.distance(start, cell) > now.distance(start, found)) {
                found = cell;
            }
        }
        return found;
    }

    public int fewest(int members) {
        if (!now.hasSet(members)) {
            return NO_SUCH;
        }
        lanterns.learn();
        int group = lanterns.cheapest(members);
        return group == NONE ? NONE : lanterns.fewestFor[group];
    }

    public int lights(int members) {
        if (!now.hasSet(members)) {
            return NO_SUCH;
        }
        lanterns.learn();
        int group = lanterns.cheapest(members);
        return group == NONE ? NONE : lanterns.leastFor[group];
    }

    public int best(int n) {
        if (now.isNone() || !isLampCount(n)) {
            return NO_SUCH;
        }
        lanterns.learn();
        return now.paidBy(lanterns.richest(n));
    }

    public int bests(int n) {
        if (now.isNone() || !isLampCount(n)) {
            return NO_SUCH;
        }
        lanterns.learn();
        return lanterns.leastFor[lanterns.richest(n)];
    }

    public int most(int n) {
        if (now.isNone() || !isLampCount(n)) {
            return NO_SUCH;
        }
        lanterns.learn();
        return lanterns.mostServed(n);
    }

    public int more() {
        return now.isNone() ? NO_SUCH : bestChange(now.allCells() & ~now.lit);
    }

    public int less() {
        return now.isNone() ? NO_SUCH : bestChange(now.lit);
    }

    public int by(int law) {
        if (now.isNone() || law < 0 || law >= LAWS) {
            return NO_SUCH;
        }
        return incomeUnder(now.lit, law);
    }

    public int law() {
        if (now.isNone()) {
            return NO_SUCH;
        }
        int found = 0;
        int greatest = incomeUnder(now.lit, 0);
        for (int law = 1; law < LAWS; law++) {
            int sum = incomeUnder(now.lit, law);
            if (sum > greatest) {
                greatest = sum;
                found = law;
            }
        }
        return found;
    }

    public int laws(int slot) {
        int refused = sightRefusal(slot);
        return refused != 0 ? refused : clues.lawsFitting(rows[slot]);
    }

    public int ask(int slot) {
        int refused = sightRefusal(slot);
        return refused != 0 ? refused : clues.flightToAsk(clues.lawsFitting(rows[slot]));
    }

    public int began(int slot) {
        int refused = reportRefusal(slot);
        return refused != 0 ? refused : clues.sift(rows[slot]);
    }

    public int spots(int slot) {
        int refused = reportRefusal(slot);
        if (refused != 0) {
            return refused;
        }
        clues.sift(rows[slot]);
        return clues.cellBits();
    }

    public int who(int slot) {
        int refused = reportRefusal(slot);
        return refused != 0 ? refused : clues.memberToAsk(clues.sift(rows[slot]));
    }

    public int leaves(int slot) {
        int refused = reportRefusal(slot);
        if (refused != 0) {
            return refused;
        }
        int many = clues.sift(rows[slot]);
        int asked = clues.memberToAsk(many);
        return asked == NONE ? many : clues.worstLeft(many, asked);
    }

    public int odds(int slot, int member, int what) {
        if (!now.hasMember(member) || !isFractionPart(what)) {
            return NO_SUCH;
        }
        int refused = reportRefusal(slot);
        if (refused != 0) {
            return refused;
        }
        int many = clues.sift(rows[slot]);
        return many == 0 ? NONE : partOf(clues.heardOf(member), many, what);
    }

    public int homes() {
        if (now.isNone()) {
            return NO_SUCH;
        }
        houses.weigh();
        return houses.greatest[0];
    }

    public int home(int member) {
        if (!now.hasMember(member)) {
            return NO_SUCH;
        }
        houses.weigh();
        return houses.cellOf(member);
    }

    public int swaps() {
        return now.isNone() ? NO_SUCH : houses.goodSwaps();
    }

    public int swap() {
        return now.isNone() ? NO_SUCH : houses.firstSwap();
    }

    public int price(int n) {
        if (now.isNone() || n < 0 || n > PRICE_MOST) {
            return NO_SUCH;
        }
        for (int p = 0; p < PRICE_MOST; p++) {
            if (now.wantedAt(p) <= n) {
                return p;
            }
        }
        return PRICE_MOST;
    }

    public int cut(int member, int what) {
        if (!now.hasMember(member) || !isFractionPart(what)) {
            return NO_SUCH;
        }
        lanterns.learn();
        if (lanterns.costOf(now.allMembers()) == NONE) {
            return NONE;
        }
        return partOf(lanterns.borneBy(member), lanterns.orders(), what);
    }

    public int rests(int member, int other) {
        if (!areTwo(member, other)) {
            return NO_SUCH;
        }
        int bits = 0;
        for (int lights = 0; lights < 2; lights++) {
            for (int others = 0; others < 2; others++) {
                if (atRest(member, other, lights, others)) {
                    bits |= 1 << lights + 2 * others;
                }
            }
        }
        return bits;
    }

    public int has(int member, int other, int lights, int otherLights) {
        if (!areTwo(member, other) || !isChoice(lights) || !isChoice(otherLights)) {
            return NO_GAME;
        }
        return gain(member, other, lights, otherLights);
    }

    public int chance(int member, int what) {
        if (!now.hasMember(member) || !isFractionPart(what)) {
            return NO_SUCH;
        }
        return partOf(fog.servedWeight(member), fog.allWeight(), what);
    }

    public int mean(int what) {
        if (now.isNone() || !isFractionPart(what)) {
            return NO_SUCH;
        }
        return partOf(fog.paidWeight(), fog.allWeight(), what);
    }

    public int flown(int n, int what) {
        if (now.isNone() || n < 0 || n > FLIGHTS || !isFractionPart(what)) {
            return NO_SUCH;
        }
        return partOf(fog.clearWeight(n), fog.allWeight(), what);
    }

    public int light(int cell, int on) {
        if (!now.hasCell(cell) || !isChoice(on)) {
            return NO_SUCH;
        }
        return now.acts >= ACTS_MOST ? NOT_NOW : now.putLamp(cell, on);
    }

    public int turn(int flight, int heads) {
        if (!now.hasFlight(flight) || heads < 0 || heads >= HEADINGS) {
            return NO_SUCH;
        }
        if (now.acts >= ACTS_MOST) {
            return NOT_NOW;
        }
        lanterns.forget();
        return now.putHeading(flight, heads);
    }

    public int undo() {
        if (now.isNone()) {
            return NO_SUCH;
        }
        if (now.acts == 0) {
            return NOT_NOW;
        }
        lanterns.forget();
        now.takeBack();
        return now.acts;
    }

    public int anew() {
        if (now.isNone()) {
            return NO_SUCH;
        }
        lanterns.forget();
        int were = now.acts;
        for (int i = 0; i < were; i++) {
            now.takeBack();
        }
        return were;
    }

    public int drawn(int seed, int what) {
        if (now.isNone() || !isSeed(seed) || what < 0 || what > 1) {
            return NO_SUCH;
        }
        int hidden = fog.drawFrom(seed);
        return what == 0 ? hidden : fog.servedIn(hidden);
    }

    public int luck(int seed, int n, int member) {
        if (!now.hasMember(member) || !isSeed(seed) || n < 1 || n > NIGHTS_MOST) {
            return NO_SUCH;
        }
        int nights = 0;
        for (int i = 0; i < n; i++) {
            if (hasBit(fog.servedIn(fog.drawFrom(seed + i)), member)) {
                nights++;
            }
        }
        return nights;
    }

    public int rate(int member, int n) {
        if (!now.hasMember(member) || n < 0 || n > PAYS_MOST) {
            return NO_SUCH;
        }
        if (now.acts > 0) {
            return NOT_NOW;
        }
        int was = now.pays[member];
        now.pays[member] = n;
        return was;
    }

    public int count(int what) {
        switch (what) {
            case 0:
                return now.wide;
            case 1:
                return now.high;
            case 2:
                return now.law;
            case 3:
                return now.ear;
            case 4:
                return now.odds;
            case 5:
                return now.cells();
            case 6:
                return now.flights;
            case 7:
                return now.members;
            case 8:
                return now.acts;
            case 9:
                return now.lines;
            case 10:
                return tape.length;
            case 11:
                return rowsHad();
            default:
                return NONE;
        }
    }

    public int image(int k) {
        if (k < 0 || k >= IMAGES) {
            return NO_SUCH;
        }
        images[k].become(now);
        imaged[k] = true;
        return 0;
    }

    public int back(int k) {
        if (k < 0 || k >= IMAGES) {
            return NO_SUCH;
        }
        if (!imaged[k]) {
            return NOTHING;
        }
        now.become(images[k]);
        lanterns.forget();
        return 0;
    }

    public int row(int slot, int width, int n) {
        if (!isSlot(slot) || width < 0 || width >= WIDTHS || n > ROW_MOST) {
            return NO_SUCH;
        }
        if (n < 0) {
            return BELOW_ZERO;
        }
        rows[slot].begin(width, n);
        return 0;
    }

    public int write(int slot, int i, long v) {
        if (!isSlot(slot)) {
            return NO_SUCH;
        }
        Row row = rows[slot];
        if (row.isNothing()) {
            return NOTHING;
        }
        if (i < 0 || i >= row.length) {
            return BEYOND;
        }
        row.put(i, v);
        return 0;
    }

    public int paste(int slot, int i, int to, int k, int n) {
        if (!isSlot(slot) || !isSlot(to)) {
            return NO_SUCH;
        }
        Row from = rows[slot];
        Row onto = rows[to];
        if (from.isNothing() || onto.isNothing()) {
            return NOTHING;
        }
        if (from.width != onto.width) {
            return UNLIKE;
        }
        if (!from.reaches(i, n) || !onto.reaches(k, n)) {
            return BEYOND;
        }
        System.arraycopy(from.numbers, i, onto.numbers, k, n);
        return 0;
    }

    private static boolean hasBit(int bits, int i) {
        return (bits >> i & 1) != 0;
    }

    private static boolean isStep(int step) {
        return step >= 0 && step < STEPS;
    }

    private static boolean isLampCount(int n) {
        return n >= 0 && n <= LAMPS_MOST;
    }

    private static boolean isFractionPart(int what) {
        return what == 0 || what == 1;
    }

    private static boolean isChoice(int choice) {
        return choice == 0 || choice == 1;
    }

    private static boolean isSeed(int seed) {
        return seed >= 0 && seed <= SEED_MOST;
    }

    private static boolean isSlot(int slot) {
        return slot >= 0 && slot < SLOTS;
    }

    private static int commonDivisor(int above, int below) {
        int a = above;
        int b = below;
        // Euclid's rule needs fewer than fifty rounds for any two ints.
        for (int i = 0; i < 64 && b != 0; i++) {
            int rest = a % b;
            a = b;
            b = rest;
        }
        return a;
    }

    private static int partOf(int above, int below, int what) {
        int divisor = commonDivisor(above, below);
        // Below is 1 at least, so this never is; it would tell 0 / 1.
        if (divisor < 1) {
            return what;
        }
        return (what == 0 ? above : below) / divisor;
    }

    private boolean areTwo(int member, int other) {
        return now.hasMember(member) && now.hasMember(other) && member != other;
    }

    private int rowsHad() {
        int many = 0;
        for (int slot = 0; slot < SLOTS; slot++) {
            if (!rows[slot].isNothing()) {
                many++;
            }
        }
        return many;
    }

    private void followNow(int flight) {
        sky.under(now.lit, now.law);
        sky.follow(flight);
    }

    private void passNow() {
        sky.under(now.lit, now.law);
        sky.pass(ALL_FLIGHTS);
    }

    private int servedUnder(int lit, int law) {
        sky.under(lit, law);
        sky.pass(ALL_FLIGHTS);
        return sky.servedBits();
    }

    private int incomeUnder(int lit, int law) {
        return now.paidBy(servedUnder(lit, law));
    }

    private int earshotOfUnpaid() {
        int cells = 0;
        for (int member = 0; member < now.members; member++) {
            if (now.wants[member] == 0) {
                cells |= now.earshot(member);
            }
        }
        return cells;
    }

    private int unpaidBits() {
        passNow();
        int bits = now.allMembers() & ~sky.deafBits();
        return bits & ~now.wanters();
    }

    private int flightsOver(int cells) {
        int bits = 0;
        for (int flight = 0; flight < now.flights; flight++) {
            followNow(flight);
            if ((sky.wayBits() & cells) != 0) {
                bits |= 1 << flight;
            }
        }
        return bits;
    }

    private int geeseWithin(int cells, int step) {
        int sum = 0;
        for (int flight = 0; flight < now.flights; flight++) {
            followNow(flight);
            int cell = sky.cellAt(step);
            if (cell != NONE && hasBit(cells, cell)) {
                sum += now.flocks[flight];
            }
        }
        return sum;
    }

    /** Of some cells, the one whose lamp changed alone brings the greatest income above today's. */
    private int bestChange(int cells) {
        int found = NONE;
        int greatest = incomeUnder(now.lit, now.law);
        for (int cell = 0; cell < now.cells(); cell++) {
            if (hasBit(cells, cell)) {
                int sum = incomeUnder(now.lit ^ 1 << cell, now.law);
                if (sum > greatest) {
                    greatest = sum;
                    found = cell;
                }
            }
        }
        return found;
    }

    private int rowRefusal(int slot) {
        if (!isSlot(slot) || now.isNone()) {
            return NO_SUCH;
        }
        return rows[slot].isNothing() ? NOTHING : 0;
    }

    private int sightRefusal(int slot) {
        int refused = rowRefusal(slot);
        if (refused != 0) {
            return refused;
        }
        return clues.areSights(rows[slot]) ? 0 : NO_SUCH;
    }

    private int reportRefusal(int slot) {
        int refused = rowRefusal(slot);
        if (refused != 0) {
            return refused;
        }
        return clues.areReports(rows[slot]) ? 0 : NO_SUCH;
    }

    private int gain(int member, int other, int lights, int otherLights) {
        int house = 1 << now.houses[member];
        int otherHouse = 1 << now.houses[other];
        int lit = now.lit & ~house & ~otherHouse;
        // Both are put out before either is lit, so that one cell for two is lit if either wants it.
        lit |= lights == 1 ? house : 0;
        lit |= otherLights == 1 ? otherHouse : 0;
        int paid = hasBit(servedUnder(lit, now.law), member) ? now.pays[member] : 0;
        return lights == 1 ? paid - LAMP_COST : paid;
    }

    private boolean atRest(int member, int other, int lights, int otherLights) {
        return gain(member, other, lights, otherLights) >= gain(member, other, 1 - lights, otherLights)
                && gain(other, member, otherLights, lights) >= gain(other, member, 1 - otherLights, lights);
    }

    /** The bytes fed so far, out of which a land is read. */
    private static final class Tape {
        final byte[] bytes = new byte[TAPE_MOST];
        int length;

        /** The caller has seen that there is room. */
        void append(int number) {
            for (int shift = 24; shift >= 0 && length < TAPE_MOST; shift -= 8) {
                bytes[length] = (byte) (number >> shift);
                length++;
            }
        }
    }

    /** Reads the tape into a draft, so that a fault leaves the land itself untouched. */
    private static final class Reader {
        static final int MISPLACED = 1;
        static final int OUT_OF_BOUNDS = 2;
        static final int TOO_MANY = 3;

        static final int FINISH = 0;
        static final int WORD = 1;
        static final int NUMBER = 2;
        static final int SEMICOLON = 3;
        static final int BLANK = 4;
        static final int STRANGE = 5;

        final Tape tape;
        final Land draft;
        int kind;
        int start;
        int stop;
        int trouble;
        int where = NONE;

        Reader(Tape tape, Land draft) {
            this.tape = tape;
            this.draft = draft;
        }

        boolean readTape() {
            draft.clear();
            trouble = 0;
            where = NONE;
            stop = 0;
            advance();
            for (int i = 0; i < TAPE_MOST && kind != FINISH && trouble == 0; i++) {
                readLine();
            }
            draft.survey();
            return trouble == 0;
        }

        void readLine() {
            if (draft.lines == 0) {
                readHeadLine();
            } else if (isWord("flight")) {
                readFlightLine();
            } else if (isWord("member")) {
                readMemberLine();
            } else if (isWord("lamp")) {
                advance();
                draft.lit |= 1 << readField("at", 0, draft.cells() - 1);
            } else {
                refuse(MISPLACED);
            }
            if (kind != SEMICOLON) {
                refuse(MISPLACED);
            }
            if (trouble == 0) {
                draft.lines++;
                advance();
            }
        }

        void readHeadLine() {
            if (!isWord("land")) {
                refuse(MISPLACED);
                return;
            }
            advance();
            draft.wide = readField("wide", 1, 5);
            draft.high = readField("high", 1, 4);
            draft.law = readField("law", 0, LAWS - 1);
            draft.ear = readField("ear", 0, 8);
            draft.odds = readField("odds", 0, 10);
        }

        void readFlightLine() {
            if (draft.flights >= FLIGHTS) {
                refuse(TOO_MANY);
                return;
            }
            advance();
            draft.starts[draft.flights] = readField("at", 0, draft.cells() - 1);
            draft.headings[draft.flights] = readField("heads", 0, HEADINGS - 1);
            draft.flocks[draft.flights] = readField("geese", 1, 20);
            draft.flights++;
        }

        void readMemberLine() {
            if (draft.members >= MEMBERS) {
                refuse(TOO_MANY);
                return;
            }
            advance();
            draft.houses[draft.members] = readField("at", 0, draft.cells() - 1);
            draft.wants[draft.members] = readField("wants", 0, 99);
            draft.pays[draft.members] = readField("pays", 0, PAYS_MOST);
            draft.members++;
        }

        /** Behind a fault nothing more is read; the least number stands in for it. */
        int readField(String name, int least, int greatest) {
            if (trouble != 0) {
                return least;
            }
            if (!isWord(name)) {
                refuse(MISPLACED);
                return least;
            }
            advance();
            if (kind != NUMBER) {
                refuse(MISPLACED);
                return least;
            }
            int value = numberRead();
            if (value < least || value > greatest) {
                refuse(OUT_OF_BOUNDS);
                return least;
            }
            advance();
            return value;
        }

        /** Tokens are read from left to right, so the first refusal is the one that is told. */
        void refuse(int why) {
            if (trouble == 0) {
                trouble = why;
                where = start;
            }
        }

        void advance() {
            start = stop;
            while (start < tape.length && kindOf(tape.bytes[start]) == BLANK) {
                start++;
            }
            stop = start;
            if (start >= tape.length) {
                kind = FINISH;
                return;
            }
            kind = kindOf(tape.bytes[start]);
            stop++;
            if (kind == WORD || kind == NUMBER) {
                while (stop < tape.length && kindOf(tape.bytes[stop]) == kind) {
                    stop++;
                }
            }
        }

        static int kindOf(int sign) {
            if (sign == ' ' || sign == '\n') {
                return BLANK;
            }
            if (sign >= 'a' && sign <= 'z') {
                return WORD;
            }
            if (sign >= '0' && sign <= '9') {
                return NUMBER;
            }
            return sign == ';' ? SEMICOLON : STRANGE;
        }

        boolean isWord(String word) {
            if (kind != WORD || stop - start != word.length()) {
                return false;
            }
            for (int i = 0; i < word.length(); i++) {
                if (tape.bytes[start + i] != word.charAt(i)) {
                    return false;
                }
            }
            return true;
        }

        int numberRead() {
            int value = 0;
            for (int i = start; i < stop; i++) {
                // A thousand is beyond every bound, so longer numbers need not be told apart.
                value = Math.min(1000, value * 10 + tape.bytes[i] - '0');
            }
            return value;
        }
    }

    /** A land with its flights, members and lit lamps, and the acts done in it. */
    private static final class Land {
        int lines;
        int wide;
        int high;
        int law;
        int ear;
        int odds;
        int flights;
        int members;
        int lit;
        int acts;
        final int[] starts = new int[FLIGHTS];
        final int[] headings = new int[FLIGHTS];
        final int[] flocks = new int[FLIGHTS];
        final int[] houses = new int[MEMBERS];
        final int[] wants = new int[MEMBERS];
        final int[] pays = new int[MEMBERS];
        // An act is kept as what it undoes: a cell, or behind the cells a flight, and what was there.
        final int[] actPlaces = new int[ACTS_MOST];
        final int[] actWere = new int[ACTS_MOST];
        // These two follow from the size and the ear; kept because every step of a flight needs them.
        final int[] within = new int[CELLS];
        final int[] beside = new int[CELLS * HEADINGS];

        void clear() {
            lines = 0;
            wide = 0;
            high = 0;
            law = 0;
            ear = 0;
            odds = 0;
            flights = 0;
            members = 0;
            lit = 0;
            acts = 0;
        }

        void become(Land other) {
            lines = other.lines;
            wide = other.wide;
            high = other.high;
            law = other.law;
            ear = other.ear;
            odds = other.odds;
            flights = other.flights;
            members = other.members;
            lit = other.lit;
            acts = other.acts;
            System.arraycopy(other.starts, 0, starts, 0, FLIGHTS);
            System.arraycopy(other.headings, 0, headings, 0, FLIGHTS);
            System.arraycopy(other.flocks, 0, flocks, 0, FLIGHTS);
            System.arraycopy(other.houses, 0, houses, 0, MEMBERS);
            System.arraycopy(other.wants, 0, wants, 0, MEMBERS);
            System.arraycopy(other.pays, 0, pays, 0, MEMBERS);
            System.arraycopy(other.actPlaces, 0, actPlaces, 0, ACTS_MOST);
            System.arraycopy(other.actWere, 0, actWere, 0, ACTS_MOST);
            System.arraycopy(other.within, 0, within, 0, CELLS);
            System.arraycopy(other.beside, 0, beside, 0, CELLS * HEADINGS);
        }

        void survey() {
            for (int cell = 0; cell < cells(); cell++) {
                within[cell] = 0;
                for (int other = 0; other < cells(); other++) {
                    if (distance(cell, other) <= ear) {
                        within[cell] |= 1 << other;
                    }
                }
                for (int heading = 0; heading < HEADINGS; heading++) {
                    beside[cell * HEADINGS + heading] = neighbour(cell, heading);
                }
            }
        }

        int neighbour(int cell, int heading) {
            int row = rowOf(cell);
            int column = cell - row * wide;
            switch (heading) {
                case 0:
                    return row > 0 ? cell - wide : NONE;
                case 1:
                    return column < wide - 1 ? cell + 1 : NONE;
                case 2:
                    return row < high - 1 ? cell + wide : NONE;
                default:
                    return column > 0 ? cell - 1 : NONE;
            }
        }

        int rowOf(int cell) {
            return wide < 1 ? 0 : cell / wide;
        }

        int distance(int cell, int other) {
            int row = rowOf(cell);
            int otherRow = rowOf(other);
            int columns = cell - row * wide - (other - otherRow * wide);
            return Math.abs(row - otherRow) + Math.abs(columns);
        }

        boolean isNone() {
            return lines == 0;
        }

        int cells() {
            return wide * high;
        }

        int allCells() {
            return (1 << cells()) - 1;
        }

        int allMembers() {
            return (1 << members) - 1;
        }

        boolean hasFlight(int flight) {
            return flight >= 0 && flight < flights;
        }

        boolean hasMember(int member) {
            return member >= 0 && member < members;
        }

        boolean hasCell(int cell) {
            return cell >= 0 && cell < cells();
        }

        boolean hasSet(int set) {
            return !isNone() && set >= 0 && set <= allMembers();
        }

        int earshot(int member) {
            return within[houses[member]];
        }

        int wanters() {
            int bits = 0;
            for (int member = 0; member < members; member++) {
                if (wants[member] > 0) {
                    bits |= 1 << member;
                }
            }
            return bits;
        }

        int paidBy(int group) {
            int sum = 0;
            for (int member = 0; member < members; member++) {
                if (hasBit(group, member)) {
                    sum += pays[member];
                }
            }
            return sum;
        }

        int wantedAt(int price) {
            int sum = 0;
            for (int member = 0; member < members; member++) {
                if (pays[member] >= price * wants[member]) {
                    sum += wants[member];
                }
            }
            return sum;
        }

        /** The caller has seen that there is room for an act. */
        int putLamp(int cell, int on) {
            int was = lit >> cell & 1;
            keepAct(cell, was);
            setLamp(cell, on);
            return was;
        }

        int putHeading(int flight, int heading) {
            int was = headings[flight];
            keepAct(CELLS + flight, was);
            headings[flight] = heading;
            return was;
        }

        void keepAct(int place, int was) {
            actPlaces[acts] = place;
            actWere[acts] = was;
            acts++;
        }

        void setLamp(int cell, int on) {
            lit = on == 1 ? lit | 1 << cell : lit & ~(1 << cell);
        }

        void takeBack() {
            if (acts < 1) {
                return;
            }
            acts--;
            int place = actPlaces[acts];
            if (place < CELLS) {
                setLamp(place, actWere[acts]);
            } else {
                headings[place - CELLS] = actWere[acts];
            }
        }
    }

    /** Flights as they go under some lamps and a law, and what is heard of them. */
    private static final class Sky {
        final Land land;
        final int[] track = new int[STEPS];
        final int[] facing = new int[STEPS];
        final int[] kept = new int[STEPS];
        final int[] geeseOver = new int[CELLS];
        int lit;
        int law;
        int stay;
        int keptStay;
        int turns;

        Sky(Land land) {
            this.land = land;
        }

        void under(int lamps, int rule) {
            lit = lamps;
            law = rule;
        }

        void follow(int flight) {
            trace(land.starts[flight], land.headings[flight]);
        }

        void trace(int start, int heading) {
            int cell = start;
            int head = heading;
            stay = 0;
            turns = 0;
            for (int step = 0; step < STEPS && cell != NONE; step++) {
                if (hasBit(lit, cell)) {
                    head = turned(head, step);
                    turns++;
                }
                track[step] = cell;
                facing[step] = head;
                stay++;
                cell = land.beside[cell * HEADINGS + head];
            }
        }

        int turned(int head, int step) {
            switch (law) {
                case 0:
                    return head + 1 & 3;
                case 1:
                    return head + 3 & 3;
                case 2:
                    return head + 2 & 3;
                default:
                    return step % 2 == 0 ? head + 1 & 3 : head + 3 & 3;
            }
        }

        int cellAt(int step) {
            return step < stay ? track[step] : NONE;
        }

        int headingAt(int step) {
            return step < stay ? facing[step] : NONE;
        }

        int outStep() {
            return stay < STEPS ? stay : NONE;
        }

        int wayBits() {
            int bits = 0;
            for (int step = 0; step < stay; step++) {
                bits |= 1 << track[step];
            }
            return bits;
        }

        int stepsWithin(int cells) {
            int many = 0;
            for (int step = 0; step < stay; step++) {
                many += cells >> track[step] & 1;
            }
            return many;
        }

        int firstWithin(int cells) {
            for (int step = 0; step < stay; step++) {
                if (hasBit(cells, track[step])) {
                    return step;
                }
            }
            return NONE;
        }

        void keepTrack() {
            System.arraycopy(track, 0, kept, 0, STEPS);
            keptStay = stay;
        }

        int firstMeeting() {
            for (int step = 0; step < stay && step < keptStay; step++) {
                if (track[step] == kept[step]) {
                    return step;
                }
            }
            return NONE;
        }

        /** Sums the geese of some flights cell by cell, so that any house can be asked behind it. */
        void pass(int flights) {
            Arrays.fill(geeseOver, 0);
            for (int flight = 0; flight < land.flights; flight++) {
                if (hasBit(flights, flight)) {
                    trace(land.starts[flight], land.headings[flight]);
                    for (int step = 0; step < stay; step++) {
                        geeseOver[track[step]] += land.flocks[flight];
                    }
                }
            }
        }

        int heardIn(int cell) {
            int bits = land.within[cell];
            int cells = land.cells();
            int sum = 0;
            for (int other = 0; other < cells; other++) {
                sum += (bits >> other & 1) * geeseOver[other];
            }
            return sum;
        }

        boolean wouldServe(int member, int heardThere) {
            return land.wants[member] > 0 && heardThere >= land.wants[member];
        }

        int servedBits() {
            int bits = 0;
            for (int member = 0; member < land.members; member++) {
                if (wouldServe(member, heardIn(land.houses[member]))) {
                    bits |= 1 << member;
                }
            }
            return bits;
        }

        int deafBits() {
            int bits = 0;
            for (int member = 0; member < land.members; member++) {
                if (heardIn(land.houses[member]) == 0) {
                    bits |= 1 << member;
                }
            }
            return bits;
        }
    }

    /** Sets of lamps in place of those lit, told apart only by whom they serve. */
    private static final class Lanterns {
        static final int GROUPS = 64;
        static final int UNKNOWN = 99;
        static final int[] FACTORIALS = {1, 1, 2, 6, 24, 120, 720};

        final Land land;
        final Sky sky;
        // By the members served, no more and no fewer: the fewest lamps, and the least set of so many.
        final int[] fewestFor = new int[GROUPS];
        final int[] leastFor = new int[GROUPS];
        boolean known;

        Lanterns(Land land, Sky sky) {
            this.land = land;
            this.sky = sky;
        }

        /** What was found holds until flights change; lamps lit and what members pay play no part. */
        void forget() {
            known = false;
        }

        /** Every question below is asked behind this. */
        void learn() {
            if (known) {
                return;
            }
            Arrays.fill(fewestFor, UNKNOWN);
            tryLamps(0, 0);
            for (int c = 0; c < land.cells(); c++) {
                tryLamps(1 << c, 1);
                for (int b = 0; b < c; b++) {
                    tryLamps(1 << c | 1 << b, 2);
                    for (int a = 0; a < b; a++) {
                        tryLamps(1 << c | 1 << b | 1 << a, LAMPS_MOST);
                    }
                }
            }
            known = true;
        }

        void tryLamps(int set, int many) {
            sky.under(set, land.law);
            sky.pass(ALL_FLIGHTS);
            int group = sky.servedBits();
            if (many < fewestFor[group] || many == fewestFor[group] && set < leastFor[group]) {
                fewestFor[group] = many;
                leastFor[group] = set;
            }
        }

        boolean isCheaper(int group, int other) {
            return fewestFor[group] < fewestFor[other]
                    || fewestFor[group] == fewestFor[other] && leastFor[group] < leastFor[other];
        }

        /** The group served most cheaply in which all of these are, or NONE. */
        int cheapest(int members) {
            int found = NONE;
            for (int group = 0; group < GROUPS; group++) {
                boolean fits = fewestFor[group] != UNKNOWN && (group & members) == members;
                if (fits && (found == NONE || isCheaper(group, found))) {
                    found = group;
                }
            }
            return found;
        }

        /** The group that pays most, served by so many lamps at most, most cheaply of several. */
        int richest(int lampsMost) {
            int found = NONE;
            for (int group = 0; group < GROUPS; group++) {
                if (fewestFor[group] <= lampsMost && (found == NONE || isRicher(group, found))) {
                    found = group;
                }
            }
            // No lamps at all serve some group, so one is always found.
            return Math.max(0, found);
        }

        boolean isRicher(int group, int other) {
            int above = land.paidBy(group) - land.paidBy(other);
            return above > 0 || above == 0 && isCheaper(group, other);
        }

        int mostServed(int lampsMost) {
            int greatest = 0;
            for (int group = 0; group < GROUPS; group++) {
                if (fewestFor[group] <= lampsMost) {
                    greatest = Math.max(greatest, Integer.bitCount(group));
                }
            }
            return greatest;
        }

        int costOf(int members) {
            int group = cheapest(members & land.wanters());
            return group == NONE ? NONE : fewestFor[group];
        }

        int orders() {
            return FACTORIALS[land.members];
        }

        /** What a member bears, summed over all orders: those who came before him, in any order, those behind too. */
        int borneBy(int member) {
            int sum = 0;
            for (int before = 0; before <= land.allMembers(); before++) {
                if (!hasBit(before, member)) {
                    int many = Integer.bitCount(before);
                    int more = costOf(before | 1 << member) - costOf(before);
                    sum += more * FACTORIALS[many] * FACTORIALS[land.members - 1 - many];
                }
            }
            return sum;
        }
    }

    /** What can be told from rows of sights and of reports. */
    private static final class Clues {
        static final int PAIRS = CELLS * HEADINGS;

        final Land land;
        final Sky sky;
        // By cell and heading: the members who would hear such a flight, NONE where a report is against it.
        final int[] hearers = new int[PAIRS];
        final int[] outs = new int[LAWS];

        Clues(Land land, Sky sky) {
            this.land = land;
            this.sky = sky;
        }

        boolean areSights(Row row) {
            if (row.length % 3 != 0) {
                return false;
            }
            for (int i = 0; i + 2 < row.length; i += 3) {
                boolean flightFits = isWithin(row.numbers[i], 0, land.flights - 1);
                boolean stepFits = isWithin(row.numbers[i + 1], 0, STEPS - 1);
                boolean cellFits = isWithin(row.numbers[i + 2], NONE, land.cells() - 1);
                if (!flightFits || !stepFits || !cellFits) {
                    return false;
                }
            }
            return true;
        }

        boolean areReports(Row row) {
            if (row.length % 2 != 0) {
                return false;
            }
            for (int i = 0; i + 1 < row.length; i += 2) {
                boolean memberFits = isWithin(row.numbers[i], 0, land.members - 1);
                if (!memberFits || !isWithin(row.numbers[i + 1], 0, 1)) {
                    return false;
                }
            }
            return true;
        }

        static boolean isWithin(long number, int least, int greatest) {
            return number >= least && number <= greatest;
        }

        int lawsFitting(Row sights) {
            int bits = 0;
            for (int law = 0; law < LAWS; law++) {
                sky.under(land.lit, law);
                if (allSeen(sights)) {
                    bits |= 1 << law;
                }
            }
            return bits;
        }

        boolean allSeen(Row sights) {
            for (int i = 0; i + 2 < sights.length; i += 3) {
                sky.follow((int) sights.numbers[i]);
                if (sky.cellAt((int) sights.numbers[i + 1]) != sights.numbers[i + 2]) {
                    return false;
                }
            }
            return true;
        }

        int flightToAsk(int laws) {
            int found = NONE;
            int fewest = Integer.bitCount(laws);
            for (int flight = 0; flight < land.flights; flight++) {
                int worst = worstLaws(laws, flight);
                if (worst < fewest) {
                    fewest = worst;
                    found = flight;
                }
            }
            return found;
        }

        /** Of some laws, the most by which a flight is out at one and the same step. */
        int worstLaws(int laws, int flight) {
            for (int law = 0; law < LAWS; law++) {
                sky.under(land.lit, law);
                sky.follow(flight);
                outs[law] = sky.outStep();
            }
            int worst = 0;
            for (int law = 0; law < LAWS; law++) {
                int alike = 0;
                for (int other = 0; other < LAWS; other++) {
                    if (hasBit(laws, law) && hasBit(laws, other) && outs[law] == outs[other]) {
                        alike++;
                    }
                }
                worst = Math.max(worst, alike);
            }
            return worst;
        }

        /** Keeps the pairs of a cell and a heading that all reports allow, and tells how many. */
        int sift(Row reports) {
            sky.under(land.lit, land.law);
            int many = 0;
            for (int pair = 0; pair < pairs(); pair++) {
                sky.trace(pair / HEADINGS, pair % HEADINGS);
                int group = hearersOf(sky.wayBits());
                hearers[pair] = allReported(reports, group) ? group : NONE;
                many += hearers[pair] == NONE ? 0 : 1;
            }
            return many;
        }

        int pairs() {
            return land.cells() * HEADINGS;
        }

        int hearersOf(int wayCells) {
            int bits = 0;
            for (int member = 0; member < land.members; member++) {
                if ((land.earshot(member) & wayCells) != 0) {
                    bits |= 1 << member;
                }
            }
            return bits;
        }

        boolean allReported(Row reports, int group) {
            for (int i = 0; i + 1 < reports.length; i += 2) {
                if ((group >> (int) reports.numbers[i] & 1) != reports.numbers[i + 1]) {
                    return false;
                }
            }
            return true;
        }

        int cellBits() {
            int bits = 0;
            for (int pair = 0; pair < pairs(); pair++) {
                if (hearers[pair] != NONE) {
                    bits |= 1 << pair / HEADINGS;
                }
            }
            return bits;
        }

        int heardOf(int member) {
            int many = 0;
            for (int pair = 0; pair < pairs(); pair++) {
                if (hearers[pair] != NONE && hasBit(hearers[pair], member)) {
                    many++;
                }
            }
            return many;
        }

        int worstLeft(int many, int member) {
            int heardBy = heardOf(member);
            return Math.max(heardBy, many - heardBy);
        }

        int memberToAsk(int many) {
            int found = NONE;
            int fewest = many;
            for (int member = 0; member < land.members; member++) {
                int worst = worstLeft(many, member);
                if (worst < fewest) {
                    fewest = worst;
                    found = member;
                }
            }
            return found;
        }
    }

    /** Houses given to members anew. */
    private static final class Houses {
        final Land land;
        final Sky sky;
        final int[] loudness = new int[MEMBERS];
        // By the houses given to the first members, one each: what all the others can pay at most.
        final int[] greatest = new int[1 << MEMBERS];

        Houses(Land land, Sky sky) {
            this.land = land;
            this.sky = sky;
        }

        void listen() {
            sky.under(land.lit, land.law);
            sky.pass(ALL_FLIGHTS);
            for (int house = 0; house < land.members; house++) {
                loudness[house] = sky.heardIn(land.houses[house]);
            }
        }

        boolean isServed(int member, int house) {
            return sky.wouldServe(member, loudness[house]);
        }

        void weigh() {
            listen();
            int all = land.allMembers();
            greatest[all] = 0;
            for (int given = all - 1; given >= 0; given--) {
                greatest[given] = 0;
                for (int house = 0; house < land.members; house++) {
                    if (!hasBit(given, house)) {
                        greatest[given] = Math.max(greatest[given], paidWith(given, house));
                    }
                }
            }
        }

        /** What is paid at most by the next member in this house and by all behind him. */
        int paidWith(int given, int house) {
            int member = Integer.bitCount(given);
            int paid = isServed(member, house) ? land.pays[member] : 0;
            return paid + greatest[given | 1 << house];
        }

        /** The least row takes for each member in turn the least cell that still brings the most. */
        int cellOf(int member) {
            int given = 0;
            int cell = NONE;
            for (int next = 0; next <= member; next++) {
                int house = leastHouse(given);
                cell = land.houses[house];
                given |= 1 << house;
            }
            return cell;
        }

        int leastHouse(int given) {
            int found = NONE;
            for (int house = 0; house < land.members; house++) {
                boolean fits = !hasBit(given, house) && paidWith(given, house) == greatest[given];
                if (fits && (found == NONE || land.houses[house] < land.houses[found])) {
                    found = house;
                }
            }
            // The greatest income was reached by some house, so one is always found.
            return Math.max(0, found);
        }

        boolean isGoodSwap(int member, int other) {
            boolean bothNow = isServed(member, member) && isServed(other, other);
            return !bothNow && isServed(member, other) && isServed(other, member);
        }

        int goodSwaps() {
            listen();
            int many = 0;
            for (int member = 0; member < land.members; member++) {
                for (int other = member + 1; other < land.members; other++) {
                    if (isGoodSwap(member, other)) {
                        many++;
                    }
                }
            }
            return many;
        }

        int firstSwap() {
            listen();
            for (int member = 0; member < land.members; member++) {
                for (int other = member + 1; other < land.members; other++) {
                    if (isGoodSwap(member, other)) {
                        return 10 * member + other;
                    }
                }
            }
            return NONE;
        }
    }

    /** Nights on which some flights are not heard. Weights are chances times ten for each flight. */
    private static final class Fog {
        final Land land;
        final Sky sky;

        Fog(Land land, Sky sky) {
            this.land = land;
            this.sky = sky;
        }

        int allWeight() {
            int weight = 1;
            for (int flight = 0; flight < land.flights; flight++) {
                weight *= 10;
            }
            return weight;
        }

        int weightOf(int hidden) {
            int weight = 1;
            for (int flight = 0; flight < land.flights; flight++) {
                weight *= hasBit(hidden, flight) ? land.odds : 10 - land.odds;
            }
            return weight;
        }

        int servedIn(int hidden) {
            sky.under(land.lit, land.law);
            sky.pass(ALL_FLIGHTS & ~hidden);
            return sky.servedBits();
        }

        int servedWeight(int member) {
            int sum = 0;
            for (int hidden = 0; hidden < 1 << land.flights; hidden++) {
                if (hasBit(servedIn(hidden), member)) {
                    sum += weightOf(hidden);
                }
            }
            return sum;
        }

        int paidWeight() {
            int sum = 0;
            for (int hidden = 0; hidden < 1 << land.flights; hidden++) {
                sum += weightOf(hidden) * land.paidBy(servedIn(hidden));
            }
            return sum;
        }

        int clearWeight(int least) {
            int sum = 0;
            for (int hidden = 0; hidden < 1 << land.flights; hidden++) {
                if (land.flights - Integer.bitCount(hidden) >= least) {
                    sum += weightOf(hidden);
                }
            }
            return sum;
        }

        int drawFrom(int seed) {
            long x = seed;
            int hidden = 0;
            for (int flight = 0; flight < land.flights; flight++) {
                x = (1103515245L * x + 12345L) & 0x7fffffffL;
                if (x / 65536 % 10 < land.odds) {
                    hidden |= 1 << flight;
                }
            }
            return hidden;
        }
    }

    /** A slot's row of numbers; without a width it is nothing. */
    private static final class Row {
        final long[] numbers = new long[ROW_MOST];
        int width = NONE;
        int length;

        boolean isNothing() {
            return width == NONE;
        }

        void begin(int newWidth, int newLength) {
            width = newWidth;
            length = newLength;
            Arrays.fill(numbers, 0L);
        }

        void put(int i, long number) {
            switch (width) {
                case 0:
                    numbers[i] = (byte) number;
                    break;
                case 1:
                    numbers[i] = (short) number;
                    break;
                case 2:
                    numbers[i] = (int) number;
                    break;
                default:
                    numbers[i] = number;
                    break;
            }
        }

        /** Looks by taking away, since the sum of two great numbers would wrap. */
        boolean reaches(int place, int many) {
            return place >= 0 && many >= 0 && many <= length && place <= length - many;
        }
    }
}
