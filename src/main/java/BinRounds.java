import java.util.ArrayList;
import java.util.NoSuchElementException;

/** A town's bins: rounds, marks, tips, the gate's scale, and what each house is charged. */
public final class BinRounds {
    public static final int NONE = -1;
    public static final int LATE = -2;

    private static final int MAX_STREETS = 10;
    private static final int MAX_HOUSES = 60;
    private static final int MAX_BINS = 120;
    private static final int MAX_MOVES = 8;
    private static final int MAX_PARTS = 20;
    private static final int MAX_CARTS = 5;
    private static final int MAX_TIPS = 600;

    private static final int WEEK_DAYS = 7;
    private static final int LAST_ROUND_DAY = 5;
    private static final int LAST_WEEK = 99;
    private static final int LAST_DAY = 699;
    private static final int WEEKS_AHEAD = 3;

    private static final int GROUPS = 3;
    private static final int REST_GROUP = 0;
    private static final int GREEN_GROUP = 1;
    private static final int PAPER_GROUP = 2;
    private static final int MAX_WEEKDAY = 4;
    private static final int ODD_WEEKS = 1;
    private static final int EVEN_WEEKS = 2;
    private static final int ALL_WEEKS = 3;

    private static final int KINDS = 5;
    private static final int PLAIN = 0;
    private static final int GREEN = 1;
    private static final int PAPER = 2;
    private static final int SHARED = 3;
    private static final int SACK = 4;

    private static final int KNOWN = 0;
    private static final int UNKNOWN = 1;
    private static final int DOUBLE = 2;
    private static final int CLAIMED = 3;

    private static final int WEIGHED = 0;
    private static final int FOUND_OUT = 1;
    private static final int WEIGHED_LATER = 2;

    private static final int HALF = 500;
    private static final int MAX_GRAMS = 200000;
    private static final int MAX_WEIGHT = 1000;
    private static final int MAX_LIMIT = 100000;
    private static final int MAX_MONEY = 100000;
    private static final int MAX_TOLERANCE = 1000;
    private static final int MAX_BANDS_AT_ONCE = 1000;
    private static final int MAX_GATE = 1000000;
    private static final long MAX_PAYMENT = 1000000000L;
    private static final int WRONGS_TO_PAY = 3;

    private final ArrayList<Street> streets = new ArrayList<>();
    private final ArrayList<House> houses = new ArrayList<>();
    private final ArrayList<Bin> bins = new ArrayList<>();
    private final ArrayList<Cart> carts = new ArrayList<>();
    private final ArrayList<Tip> tips = new ArrayList<>();
    private final Calendar calendar = new Calendar();
    private final Tables tables = new Tables();
    private final Latest latest = new Latest();
    private int open = 0;
    private int price = 0;
    private int tolerance = 0;

    public BinRounds() {
    }

    // ---- streets, rounds, holidays ----

    public int street() throws UnsupportedOperationException {
        requireRoom(streets.size() < MAX_STREETS);
        streets.add(new Street());
        return streets.size() - 1;
    }

    public void round(int street, int group, int weekday, int weeks)
            throws IndexOutOfBoundsException, IllegalArgumentException {
        Street place = streetAt(street);
        require(isGroup(group));
        require(isWithin(weekday, 0, MAX_WEEKDAY));
        require(isWithin(weeks, 0, ALL_WEEKS));
        place.setRound(group, weekday, weeks);
    }

    public boolean holiday(int day, boolean on) throws IllegalArgumentException {
        require(isWithin(day, open, LAST_DAY));
        return calendar.set(day, on);
    }

    public int when(int street, int group, int week)
            throws IndexOutOfBoundsException, IllegalArgumentException {
        Street place = streetAt(street);
        require(isGroup(group));
        require(isWithin(week, 0, LAST_WEEK));
        return roundDay(place, group, week);
    }

    // ---- houses, bins, moves, parts ----

    public int house(int street) throws IndexOutOfBoundsException, UnsupportedOperationException {
        Street place = streetAt(street);
        requireRoom(houses.size() < MAX_HOUSES);
        House added = new House(houses.size(), street, place);
        houses.add(added);
        return added.number;
    }

    public int bin(int kind, int house, int mark)
            throws IndexOutOfBoundsException, IllegalArgumentException, UnsupportedOperationException {
        House owner = houseAt(house);
        require(isWithin(kind, 0, KINDS - 1));
        requireRoom(bins.size() < MAX_BINS);
        Bin added = new Bin(bins.size(), kind, mark);
        added.moves.add(new Move(owner, open));
        bins.add(added);
        return added.number;
    }

    public int mark(int bin, int mark) throws IndexOutOfBoundsException {
        Bin marked = binAt(bin);
        marked.hasMark = true;
        marked.markNumber = mark;
        return countBearing(mark);
    }

    public boolean lost(int bin) throws IndexOutOfBoundsException {
        Bin bare = binAt(bin);
        boolean bore = bare.hasMark;
        bare.hasMark = false;
        return bore;
    }

    public int move(int bin, int house, int day)
            throws IndexOutOfBoundsException, IllegalArgumentException, UnsupportedOperationException {
        Bin moved = binAt(bin);
        House owner = houseAt(house);
        require(isWithin(day, Math.max(open, moved.latestMoveDay()), LAST_DAY));
        requireRoom(moved.moves.size() < MAX_MOVES);
        moved.moves.add(new Move(owner, day));
        return moved.moves.size();
    }

    public int part(int bin, int house, int weight, int day)
            throws IndexOutOfBoundsException, IllegalArgumentException, UnsupportedOperationException {
        Bin parted = binAt(bin);
        House sharer = houseAt(house);
        require(parted.kind == SHARED);
        require(isWithin(weight, 0, MAX_WEIGHT));
        require(isWithin(day, Math.max(open, parted.latestPartDay()), LAST_DAY));
        requireRoom(parted.parts.size() < MAX_PARTS);
        parted.parts.add(new Part(sharer, weight, day));
        return parted.parts.size();
    }

    // ---- carts, tables, terms, bands ----

    public int cart(int limit) throws IllegalArgumentException, UnsupportedOperationException {
        require(isWithin(limit, 0, MAX_LIMIT));
        requireRoom(carts.size() < MAX_CARTS);
        Cart added = new Cart(carts.size(), limit);
        carts.add(added);
        return added.number;
    }

    public void table(int kind, int lift, int rate) throws IllegalArgumentException {
        require(isWithin(kind, 0, KINDS - 1) && kind != PAPER);
        require(isWithin(lift, 0, MAX_MONEY));
        require(isWithin(rate, 0, MAX_MONEY));
        tables.set(kind, lift, rate);
    }

    public void terms(int price, int tolerance) throws IllegalArgumentException {
        require(isWithin(price, 0, MAX_MONEY));
        require(isWithin(tolerance, 0, MAX_TOLERANCE));
        this.price = price;
        this.tolerance = tolerance;
    }

    public int band(int house, int n) throws IndexOutOfBoundsException, IllegalArgumentException {
        House buyer = houseAt(house);
        require(isWithin(n, 1, MAX_BANDS_AT_ONCE));
        buyer.bands += n;
        buyer.fromBands += (long) price * n;
        return buyer.bands;
    }

    // ---- tips and the day ----

    public int tip(int cart, int mark, int grams)
            throws IndexOutOfBoundsException, IllegalArgumentException, UnsupportedOperationException {
        Cart carrier = cartAt(cart);
        require(isWithin(grams, NONE, MAX_GRAMS));
        requireRoom(tips.size() < MAX_TIPS);
        Tip added = new Tip(open, carrier, mark);
        identify(added);
        if (grams == NONE) {
            added.weighing = FOUND_OUT;
            added.halves = middleOf(added.bin);
        } else {
            added.halves = carrier.takeHalves(grams);
        }
        tips.add(added);
        return tips.size() - 1;
    }

    public boolean wrong(int tip)
            throws IndexOutOfBoundsException, NoSuchElementException, IllegalArgumentException {
        Tip told = tipAt(tip);
        requireThere(told.day == open);
        require(told.bin != null && (told.bin.kind == GREEN || told.bin.kind == PAPER));
        boolean isNews = !told.isWrong;
        told.isWrong = true;
        return isNews;
    }

    public void gate(int cart, int halves) throws IndexOutOfBoundsException, IllegalArgumentException {
        Cart scaled = cartAt(cart);
        require(isWithin(halves, 0, MAX_GATE));
        scaled.gateHalves = halves;
    }

    public int close() throws UnsupportedOperationException {
        requireRoom(open < LAST_DAY);
        readGates();
        int done = 0;
        for (int i = firstTipToday(); i < tips.size(); i++) {
            Tip ended = tips.get(i);
            ended.paid = ended.carrier.payHalves(ended.halves);
            ended.cap = ended.carrier.capOfDay();
            if (ended.bin != null) {
                chargeTip(ended, ended.bin);
                done++;
            }
        }
        forgetGates();
        open++;
        return done;
    }

    public long claim(int tip, int bin)
            throws IndexOutOfBoundsException, NoSuchElementException, IllegalArgumentException {
        Tip claimed = tipAt(tip);
        Bin claimer = binAt(bin);
        requireThere(claimed.origin == DOUBLE && claimed.day < open);
        require(claimer.bears(claimed.markNumber));
        claimed.origin = CLAIMED;
        claimed.bin = claimer;
        chargeTip(claimed, claimer);
        return splitCharge(claimed);
    }

    public int weigh(int tip, int grams)
            throws IndexOutOfBoundsException, NoSuchElementException, IllegalArgumentException {
        Tip weighed = tipAt(tip);
        requireThere(weighed.weighing == FOUND_OUT);
        require(isWithin(grams, 0, MAX_GRAMS));
        weighed.weighing = WEIGHED_LATER;
        weighed.halves = grams / HALF;
        weighed.carrier.carry += grams % HALF;
        if (weighed.day < open) {
            addShares(weighed, -1);
            weighed.paid = payableLater(weighed);
            addShares(weighed, 1);
        }
        return weighed.halves;
    }

    // ---- what is told of tips, houses, bins, carts ----

    public int look(int tip, int what) throws IndexOutOfBoundsException, NoSuchElementException {
        Tip seen = tipAt(tip);
        requireThere(isWithin(what, 0, 9));
        switch (what) {
            case 0: return seen.day;
            case 1: return seen.carrier.number;
            case 2: return seen.markNumber;
            case 3: return seen.halves;
            case 4: return seen.bin == null ? NONE : seen.bin.number;
            case 5: return seen.origin;
            case 6: return seen.weighing;
            case 7: return seen.paid;
            case 8: return seen.isCharged ? 1 : 0;
            default: return seen.isWrong ? 1 : 0;
        }
    }

    public long charge(int tip) throws IndexOutOfBoundsException {
        Tip asked = tipAt(tip);
        return splitCharge(asked);
    }

    public long share(int tip, int house) throws IndexOutOfBoundsException {
        Tip asked = tipAt(tip);
        House sharer = houseAt(house);
        splitCharge(asked);
        return sharer.part;
    }

    public long charged(int house) throws IndexOutOfBoundsException {
        return houseAt(house).allCharged();
    }

    public long bill(int house) throws IndexOutOfBoundsException {
        House billed = houseAt(house);
        long sum = billed.allCharged() - billed.allBills;
        billed.allBills += sum;
        return sum;
    }

    public long pay(int house, long sum) throws IndexOutOfBoundsException, IllegalArgumentException {
        House payer = houseAt(house);
        require(isWithin(sum, 1, MAX_PAYMENT));
        payer.allPaid += sum;
        return payer.allBills - payer.allPaid;
    }

    public int middle(int bin) throws IndexOutOfBoundsException {
        return middleOf(binAt(bin));
    }

    public int fill(int cart, int street, int group)
            throws IndexOutOfBoundsException, IllegalArgumentException {
        Cart filled = cartAt(cart);
        Street place = streetAt(street);
        require(isGroup(group));
        long sum = halvesToday(filled);
        for (int i = 0; i < houses.size(); i++) {
            House next = houses.get(i);
            if (next.place != place) {
                continue;
            }
            sum += middlesAt(next, group);
            if (sum > filled.limit) {
                return i;
            }
        }
        return NONE;
    }

    public int due(int bin) throws IndexOutOfBoundsException {
        Bin waiting = binAt(bin);
        House owner = waiting.ownerOn(open);
        if (owner == null) {
            return NONE;
        }
        int thisWeek = open / WEEK_DAYS;
        for (int week = thisWeek; week <= thisWeek + WEEKS_AHEAD; week++) {
            int day = roundDay(owner.place, waiting.groupOfKind(), week);
            if (day >= open) {
                return day;
            }
        }
        return NONE;
    }

    public int load(int cart, int what) throws IndexOutOfBoundsException, NoSuchElementException {
        Cart asked = cartAt(cart);
        requireThere(isWithin(what, 0, 4));
        switch (what) {
            case 0: return asked.carry;
            case 1: return halvesToday(asked);
            case 2: return asked.gateHalves;
            case 3: return agrees(asked) ? 1 : 0;
            default: return asked.limit;
        }
    }

    public int about(int house, int what) throws IndexOutOfBoundsException, NoSuchElementException {
        House asked = houseAt(house);
        requireThere(isWithin(what, 0, 2));
        switch (what) {
            case 0: return asked.streetNumber;
            case 1: return asked.bands;
            default: return countBinsAt(asked);
        }
    }

    public int state(int bin, int what) throws IndexOutOfBoundsException, NoSuchElementException {
        Bin asked = binAt(bin);
        requireThere(isWithin(what, 0, 6));
        switch (what) {
            case 0: return asked.kind;
            case 1: return asked.hasMark ? 1 : 0;
            case 2: return asked.hasMark ? asked.markNumber : 0;
            case 3: return numberOf(asked.ownerOn(open));
            case 4: return asked.wrongs;
            case 5: return asked.moves.size();
            default: return asked.parts.size();
        }
    }

    public long count(int what) {
        switch (what) {
            case 0: return open;
            case 1: return streets.size();
            case 2: return houses.size();
            case 3: return bins.size();
            case 4: return carts.size();
            case 5: return tips.size();
            case 6: return sumFromTips();
            case 7: return sumFromBands();
            case 8: return sumFromTips() + sumFromBands();
            case 9: return sumPaid();
            default: return NONE;
        }
    }

    // ---- tests of what a call is given ----

    private static boolean isWithin(long number, long low, long high) {
        return low <= number && number <= high;
    }

    private static boolean isGroup(int group) {
        return isWithin(group, 0, GROUPS - 1);
    }

    private static void require(boolean isRight) throws IllegalArgumentException {
        if (!isRight) {
            throw new IllegalArgumentException("a number is none of those told");
        }
    }

    private static void requireRoom(boolean hasRoom) throws UnsupportedOperationException {
        if (!hasRoom) {
            throw new UnsupportedOperationException("there can be no more");
        }
    }

    private static void requireThere(boolean isThere) throws NoSuchElementException {
        if (!isThere) {
            throw new NoSuchElementException("there is no such thing to tell");
        }
    }

    private static void requireIndex(int number, int size) throws IndexOutOfBoundsException {
        if (number < 0 || number >= size) {
            throw new IndexOutOfBoundsException("there is none of that number");
        }
    }

    private Street streetAt(int number) throws IndexOutOfBoundsException {
        requireIndex(number, streets.size());
        return streets.get(number);
    }

    private House houseAt(int number) throws IndexOutOfBoundsException {
        requireIndex(number, houses.size());
        return houses.get(number);
    }

    private Bin binAt(int number) throws IndexOutOfBoundsException {
        requireIndex(number, bins.size());
        return bins.get(number);
    }

    private Cart cartAt(int number) throws IndexOutOfBoundsException {
        requireIndex(number, carts.size());
        return carts.get(number);
    }

    private Tip tipAt(int number) throws IndexOutOfBoundsException {
        requireIndex(number, tips.size());
        return tips.get(number);
    }

    // ---- rounds, marks, who has a bin ----

    private int roundDay(Street place, int group, int week) {
        if (!place.hasRoundIn(group, week)) {
            return NONE;
        }
        return calendar.workday(week, place.weekdayOf(group));
    }

    private int countBearing(int mark) {
        int bearing = 0;
        for (int i = 0; i < bins.size(); i++) {
            if (bins.get(i).bears(mark)) {
                bearing++;
            }
        }
        return bearing;
    }

    private void identify(Tip tip) {
        int bearing = 0;
        for (int i = 0; i < bins.size(); i++) {
            if (bins.get(i).bears(tip.markNumber)) {
                tip.bin = bins.get(i);
                bearing++;
            }
        }
        if (bearing != 1) {
            tip.bin = null;
            tip.origin = bearing == 0 ? UNKNOWN : DOUBLE;
        }
    }

    private int countBinsAt(House house) {
        int had = 0;
        for (int i = 0; i < bins.size(); i++) {
            if (bins.get(i).ownerOn(open) == house) {
                had++;
            }
        }
        return had;
    }

    private static int numberOf(House house) {
        return house == null ? NONE : house.number;
    }

    // ---- halves ----

    /** The tips stand in the order of their days, so those of the open day are the last ones. */
    private int firstTipToday() {
        int first = tips.size();
        while (first > 0 && tips.get(first - 1).day == open) {
            first--;
        }
        return first;
    }

    private int halvesToday(Cart cart) {
        int sum = 0;
        for (int i = firstTipToday(); i < tips.size(); i++) {
            if (tips.get(i).carrier == cart) {
                sum += tips.get(i).halves;
            }
        }
        return sum;
    }

    private int middleOf(Bin bin) {
        latest.clear();
        if (bin == null) {
            return 0;
        }
        for (int i = tips.size() - 1; i >= 0 && !latest.isFull(); i--) {
            Tip earlier = tips.get(i);
            if (earlier.bin == bin && earlier.weighing == WEIGHED) {
                latest.insert(earlier.halves);
            }
        }
        return latest.lowerMiddle();
    }

    private long middlesAt(House house, int group) {
        long sum = 0;
        for (int i = 0; i < bins.size(); i++) {
            Bin waiting = bins.get(i);
            if (waiting.groupOfKind() == group && waiting.ownerOn(open) == house) {
                sum += middleOf(waiting);
            }
        }
        return sum;
    }

    private boolean agrees(Cart cart) {
        if (cart.gateHalves == NONE) {
            return true;
        }
        long difference = Math.abs((long) halvesToday(cart) - cart.gateHalves);
        return 1000L * difference <= (long) tolerance * cart.gateHalves;
    }

    private void readGates() {
        for (int i = 0; i < carts.size(); i++) {
            Cart weighed = carts.get(i);
            weighed.isCapped = !agrees(weighed);
            weighed.left = weighed.gateHalves;
        }
    }

    private void forgetGates() {
        for (int i = 0; i < carts.size(); i++) {
            carts.get(i).gateHalves = NONE;
        }
    }

    private int payableLater(Tip tip) {
        if (tip.cap == NONE) {
            return tip.halves;
        }
        int left = tip.cap;
        for (int i = 0; i < tips.size(); i++) {
            Tip other = tips.get(i);
            if (other != tip && other.carrier == tip.carrier && other.day == tip.day) {
                left -= other.paid;
            }
        }
        return Math.min(tip.halves, left);
    }

    // ---- charges ----

    private void chargeTip(Tip tip, Bin bin) {
        if (tip.isWrong) {
            bin.wrongs++;
        }
        int kind = tableKind(tip, bin);
        tip.lift = tables.liftOf(kind);
        tip.rate = tables.rateOf(kind);
        tip.isCharged = true;
        addShares(tip, 1);
    }

    /** The kind whose table the tip is charged by; NONE: by no table, for nothing. */
    private int tableKind(Tip tip, Bin bin) {
        boolean isTooWrong = tip.isWrong && bin.wrongs >= WRONGS_TO_PAY;
        switch (bin.kind) {
            case GREEN: return isTooWrong ? PLAIN : GREEN;
            case PAPER: return isTooWrong ? PLAIN : NONE;
            case SACK: return takesBand(bin.ownerOn(tip.day)) ? NONE : SACK;
            default: return bin.kind;
        }
    }

    private static boolean takesBand(House house) {
        if (house == null || house.bands == 0) {
            return false;
        }
        house.bands--;
        return true;
    }

    /**
     * Moves and parts are told for open or later days alone, so the shares of a tip of a closed
     * day stay as they are until weigh() takes them back: each house's sum can be kept.
     */
    private void addShares(Tip tip, int sign) {
        splitCharge(tip);
        for (int i = 0; i < houses.size(); i++) {
            House sharer = houses.get(i);
            sharer.fromTips += sign * sharer.part;
        }
    }

    /** Leaves each house's share in its part, and answers the charge. */
    private long splitCharge(Tip tip) {
        clearSplit();
        if (!tip.isCharged || tip.bin == null) {
            return 0;
        }
        long sum = tip.lift + (long) tip.rate * tip.paid;
        if (tip.bin.kind == SHARED) {
            return splitByWeights(tip.bin, tip.day, sum);
        }
        House owner = tip.bin.ownerOn(tip.day);
        if (owner == null) {
            return 0;
        }
        owner.part = sum;
        return sum;
    }

    private void clearSplit() {
        for (int i = 0; i < houses.size(); i++) {
            houses.get(i).part = 0;
            houses.get(i).weight = 0;
        }
    }

    private long splitByWeights(Bin bin, int day, long sum) {
        bin.spreadWeights(day);
        long weights = sumWeights();
        if (weights <= 0) {
            return 0;
        }
        long left = sum;
        for (int i = 0; i < houses.size(); i++) {
            House sharer = houses.get(i);
            sharer.part = sum * sharer.weight / weights;
            left -= sharer.part;
        }
        for (int i = 0; i < houses.size() && left > 0; i++) {
            if (houses.get(i).weight > 0) {
                houses.get(i).part++;
                left--;
            }
        }
        return sum;
    }

    private long sumWeights() {
        long sum = 0;
        for (int i = 0; i < houses.size(); i++) {
            sum += houses.get(i).weight;
        }
        return sum;
    }

    /** Every charge that is somebody's is shared out whole, so the houses' sums are all charges. */
    private long sumFromTips() {
        long sum = 0;
        for (int i = 0; i < houses.size(); i++) {
            sum += houses.get(i).fromTips;
        }
        return sum;
    }

    private long sumFromBands() {
        long sum = 0;
        for (int i = 0; i < houses.size(); i++) {
            sum += houses.get(i).fromBands;
        }
        return sum;
    }

    private long sumPaid() {
        long sum = 0;
        for (int i = 0; i < houses.size(); i++) {
            sum += houses.get(i).allPaid;
        }
        return sum;
    }

    // ---- what the town is made of ----

    private static final class Calendar {
        private final boolean[] holidays = new boolean[LAST_DAY + 1];

        /** Whether that is another state than before. */
        boolean set(int day, boolean on) {
            if (day < 0 || day >= holidays.length || holidays[day] == on) {
                return false;
            }
            holidays[day] = on;
            return true;
        }

        /** The day of a week with so many workdays ahead of it, or LATE. */
        int workday(int week, int ahead) {
            int left = ahead;
            for (int i = 0; i <= LAST_ROUND_DAY; i++) {
                int day = week * WEEK_DAYS + i;
                if (isHoliday(day)) {
                    continue;
                }
                if (left == 0) {
                    return day;
                }
                left--;
            }
            return LATE;
        }

        private boolean isHoliday(int day) {
            return day >= 0 && day < holidays.length && holidays[day];
        }
    }

    private static final class Street {
        private final int[] weekdays = new int[GROUPS];
        private final int[] weeks = new int[GROUPS];

        void setRound(int group, int weekday, int which) {
            if (group >= 0 && group < weekdays.length && group < weeks.length) {
                weekdays[group] = weekday;
                weeks[group] = which;
            }
        }

        boolean hasRoundIn(int group, int week) {
            if (group < 0 || group >= weeks.length) {
                return false;
            }
            int asked = week % 2 == 0 ? EVEN_WEEKS : ODD_WEEKS;
            return weeks[group] == asked || weeks[group] == ALL_WEEKS;
        }

        int weekdayOf(int group) {
            return group >= 0 && group < weekdays.length ? weekdays[group] : 0;
        }
    }

    private static final class House {
        final int number;
        final int streetNumber;
        final Street place;
        int bands = 0;
        long fromTips = 0;
        long fromBands = 0;
        long allBills = 0;
        long allPaid = 0;
        // These two serve splitCharge() alone: kept here, they need no new rows at each call.
        long weight = 0;
        long part = 0;

        House(int number, int streetNumber, Street place) {
            this.number = number;
            this.streetNumber = streetNumber;
            this.place = place;
        }

        long allCharged() {
            return fromTips + fromBands;
        }
    }

    private static final class Move {
        final House owner;
        final int day;

        Move(House owner, int day) {
            this.owner = owner;
            this.day = day;
        }
    }

    private static final class Part {
        final House sharer;
        final int weight;
        final int day;

        Part(House sharer, int weight, int day) {
            this.sharer = sharer;
            this.weight = weight;
            this.day = day;
        }
    }

    private static final class Bin {
        final int number;
        final int kind;
        final ArrayList<Move> moves = new ArrayList<>();
        final ArrayList<Part> parts = new ArrayList<>();
        boolean hasMark = true;
        int markNumber;
        int wrongs = 0;

        Bin(int number, int kind, int markNumber) {
            this.number = number;
            this.kind = kind;
            this.markNumber = markNumber;
        }

        boolean bears(int asked) {
            return hasMark && markNumber == asked;
        }

        int groupOfKind() {
            switch (kind) {
                case GREEN: return GREEN_GROUP;
                case PAPER: return PAPER_GROUP;
                default: return REST_GROUP;
            }
        }

        int latestMoveDay() {
            return moves.isEmpty() ? 0 : moves.get(moves.size() - 1).day;
        }

        int latestPartDay() {
            return parts.isEmpty() ? 0 : parts.get(parts.size() - 1).day;
        }

        /** The house that has the bin on a day, or null. */
        House ownerOn(int day) {
            for (int i = moves.size() - 1; i >= 0; i--) {
                if (moves.get(i).day <= day) {
                    return moves.get(i).owner;
                }
            }
            return null;
        }

        /** Sets each sharer's weight of a day: a later part of a house takes an earlier one's place. */
        void spreadWeights(int day) {
            for (int i = 0; i < parts.size(); i++) {
                Part told = parts.get(i);
                if (told.day <= day) {
                    told.sharer.weight = told.weight;
                }
            }
        }
    }

    private static final class Cart {
        final int number;
        final int limit;
        int carry = 0;
        int gateHalves = NONE;
        // These two hold while close() runs.
        boolean isCapped = false;
        int left = 0;

        Cart(int number, int limit) {
            this.number = number;
            this.limit = limit;
        }

        int takeHalves(int grams) {
            int together = carry + grams;
            carry = together % HALF;
            return together / HALF;
        }

        int payHalves(int halves) {
            if (!isCapped) {
                return halves;
            }
            int paid = Math.min(halves, left);
            left -= paid;
            return paid;
        }

        int capOfDay() {
            return isCapped ? gateHalves : NONE;
        }
    }

    private static final class Tip {
        final int day;
        final Cart carrier;
        final int markNumber;
        int halves = 0;
        Bin bin = null;
        int origin = KNOWN;
        int weighing = WEIGHED;
        int paid = 0;
        // The gate of its cart's day if that did not agree when it was closed, else NONE.
        int cap = NONE;
        boolean isCharged = false;
        boolean isWrong = false;
        int lift = 0;
        int rate = 0;

        Tip(int day, Cart carrier, int markNumber) {
            this.day = day;
            this.carrier = carrier;
            this.markNumber = markNumber;
        }
    }

    private static final class Tables {
        private final int[] lifts = new int[KINDS];
        private final int[] rates = new int[KINDS];

        void set(int kind, int lift, int rate) {
            if (kind >= 0 && kind < lifts.length && kind < rates.length) {
                lifts[kind] = lift;
                rates[kind] = rate;
            }
        }

        int liftOf(int kind) {
            return kind >= 0 && kind < lifts.length ? lifts[kind] : 0;
        }

        int rateOf(int kind) {
            return kind >= 0 && kind < rates.length ? rates[kind] : 0;
        }
    }

    /** The halves of a bin's latest tips in rising order: one row, used again for every bin. */
    private static final class Latest {
        private final int[] row = new int[5];
        private int size = 0;

        void clear() {
            size = 0;
        }

        boolean isFull() {
            return size >= row.length;
        }

        void insert(int halves) {
            if (isFull()) {
                return;
            }
            int at = size;
            while (at > 0 && at < row.length && row[at - 1] > halves) {
                row[at] = row[at - 1];
                at--;
            }
            row[at] = halves;
            size++;
        }

        int lowerMiddle() {
            int at = (size - 1) / 2;
            return size > 0 && at < row.length ? row[at] : 0;
        }
    }
}
