import java.util.ArrayList;
import java.util.Collections;
import java.util.HashMap;
import java.util.List;
import java.util.Map;
import java.util.NoSuchElementException;
import java.util.TreeSet;

/**
 * The document a second time, as plainly as the Java library allows: nothing is summed up ahead,
 * each answer is made from all that was told. LedgerTest puts it beside BinRounds.
 */
final class Ledger {
    private static final int NONE = -1;
    private static final int LATE = -2;
    private static final int[] GROUP_OF_KIND = {0, 1, 2, 0, 0};

    private record Dated(int house, int weight, int day) { }

    private static final class BinRow {
        int kind;
        Integer mark;
        List<Dated> moves = new ArrayList<>();
        List<Dated> parts = new ArrayList<>();
        int wrongs;
    }

    private static final class TipRow {
        int day, cart, mark, halves, bin, came, weighing, paid, lift, rate;
        boolean charged, wrong;
    }

    private final List<Map<Integer, int[]>> streets = new ArrayList<>();
    private final TreeSet<Integer> holidays = new TreeSet<>();
    private final List<Integer> houseStreets = new ArrayList<>();
    private final List<Integer> bands = new ArrayList<>();
    private final List<Long> bandSums = new ArrayList<>();
    private final List<Long> bills = new ArrayList<>();
    private final List<Long> payments = new ArrayList<>();
    private final List<BinRow> bins = new ArrayList<>();
    private final List<Integer> limits = new ArrayList<>();
    private final List<Integer> carries = new ArrayList<>();
    private final List<TipRow> tips = new ArrayList<>();
    private final Map<Integer, int[]> tables = new HashMap<>();
    private final Map<List<Integer>, Integer> gates = new HashMap<>();
    private final Map<List<Integer>, Boolean> agreed = new HashMap<>();
    private int open = 0;
    private int price = 0;
    private int tolerance = 0;

    // ---- exceptions ----

    private static void index(int i, List<?> rows) {
        if (i < 0 || i >= rows.size()) {
            throw new IndexOutOfBoundsException();
        }
    }

    private static void number(long n, long low, long high) {
        if (n < low || n > high) {
            throw new IllegalArgumentException();
        }
    }

    private static void room(List<?> rows, int most) {
        if (rows.size() >= most) {
            throw new UnsupportedOperationException();
        }
    }

    private static void what(int what, int last) {
        if (what < 0 || what > last) {
            throw new NoSuchElementException();
        }
    }

    // ---- the face ----

    public int street() {
        room(streets, 10);
        streets.add(new HashMap<>());
        return streets.size() - 1;
    }

    public void round(int street, int group, int weekday, int weeks) {
        index(street, streets);
        number(group, 0, 2);
        number(weekday, 0, 4);
        number(weeks, 0, 3);
        streets.get(street).put(group, new int[] {weekday, weeks});
    }

    public boolean holiday(int day, boolean on) {
        number(day, open, 699);
        return on ? holidays.add(day) : holidays.remove(day);
    }

    public int when(int street, int group, int week) {
        index(street, streets);
        number(group, 0, 2);
        number(week, 0, 99);
        return dayOfRound(street, group, week);
    }

    private int dayOfRound(int street, int group, int week) {
        int[] told = streets.get(street).get(group);
        if (told == null || told[1] == 0 || told[1] == 1 && week % 2 == 0 || told[1] == 2 && week % 2 == 1) {
            return NONE;
        }
        List<Integer> free = new ArrayList<>();
        for (int day = 7 * week; day < 7 * week + 7; day++) {
            if (!holidays.contains(day)) {
                free.add(day);
            }
        }
        if (told[0] >= free.size() || free.get(told[0]) % 7 > 5) {
            return LATE;
        }
        return free.get(told[0]);
    }

    public int house(int street) {
        index(street, streets);
        room(houseStreets, 60);
        houseStreets.add(street);
        bands.add(0);
        bandSums.add(0L);
        bills.add(0L);
        payments.add(0L);
        return houseStreets.size() - 1;
    }

    public int bin(int kind, int house, int mark) {
        index(house, houseStreets);
        number(kind, 0, 4);
        room(bins, 120);
        BinRow b = new BinRow();
        b.kind = kind;
        b.mark = mark;
        b.moves.add(new Dated(house, 0, open));
        bins.add(b);
        return bins.size() - 1;
    }

    public int mark(int bin, int mark) {
        index(bin, bins);
        bins.get(bin).mark = mark;
        return bearers(mark).size();
    }

    private List<Integer> bearers(int mark) {
        List<Integer> all = new ArrayList<>();
        for (int i = 0; i < bins.size(); i++) {
            if (bins.get(i).mark != null && bins.get(i).mark.intValue() == mark) {
                all.add(i);
            }
        }
        return all;
    }

    public boolean lost(int bin) {
        index(bin, bins);
        boolean bore = bins.get(bin).mark != null;
        bins.get(bin).mark = null;
        return bore;
    }

    public int move(int bin, int house, int day) {
        index(bin, bins);
        index(house, houseStreets);
        number(day, open, 699);
        List<Dated> moves = bins.get(bin).moves;
        number(day, moves.get(moves.size() - 1).day(), 699);
        room(moves, 8);
        moves.add(new Dated(house, 0, day));
        return moves.size();
    }

    public int part(int bin, int house, int weight, int day) {
        index(bin, bins);
        index(house, houseStreets);
        number(bins.get(bin).kind, 3, 3);
        number(weight, 0, 1000);
        number(day, open, 699);
        List<Dated> parts = bins.get(bin).parts;
        if (!parts.isEmpty()) {
            number(day, parts.get(parts.size() - 1).day(), 699);
        }
        room(parts, 20);
        parts.add(new Dated(house, weight, day));
        return parts.size();
    }

    public int cart(int limit) {
        number(limit, 0, 100000);
        room(limits, 5);
        limits.add(limit);
        carries.add(0);
        return limits.size() - 1;
    }

    public void table(int kind, int lift, int rate) {
        number(kind, 0, 4);
        if (kind == 2) {
            throw new IllegalArgumentException();
        }
        number(lift, 0, 100000);
        number(rate, 0, 100000);
        tables.put(kind, new int[] {lift, rate});
    }

    public void terms(int price, int tolerance) {
        number(price, 0, 100000);
        number(tolerance, 0, 1000);
        this.price = price;
        this.tolerance = tolerance;
    }

    public int band(int house, int n) {
        index(house, houseStreets);
        number(n, 1, 1000);
        bands.set(house, bands.get(house) + n);
        bandSums.set(house, bandSums.get(house) + (long) n * price);
        return bands.get(house);
    }

    public int tip(int cart, int mark, int grams) {
        index(cart, limits);
        number(grams, NONE, 200000);
        room(tips, 600);
        TipRow t = new TipRow();
        t.day = open;
        t.cart = cart;
        t.mark = mark;
        List<Integer> all = bearers(mark);
        t.came = all.size() == 1 ? 0 : all.isEmpty() ? 1 : 2;
        t.bin = all.size() == 1 ? all.get(0) : NONE;
        if (grams == NONE) {
            t.weighing = 1;
            t.halves = t.bin == NONE ? 0 : middleOf(t.bin);
        } else {
            int all2 = grams + carries.get(cart);
            t.halves = all2 / 500;
            carries.set(cart, all2 - 500 * t.halves);
        }
        tips.add(t);
        return tips.size() - 1;
    }

    public boolean wrong(int tip) {
        index(tip, tips);
        TipRow t = tips.get(tip);
        if (t.day < open) {
            throw new NoSuchElementException();
        }
        if (t.bin == NONE || GROUP_OF_KIND[bins.get(t.bin).kind] == 0) {
            throw new IllegalArgumentException();
        }
        boolean before = t.wrong;
        t.wrong = true;
        return !before;
    }

    public void gate(int cart, int halves) {
        index(cart, limits);
        number(halves, 0, 1000000);
        gates.put(List.of(cart, open), halves);
    }

    public int close() {
        if (open == 699) {
            throw new UnsupportedOperationException();
        }
        for (int c = 0; c < limits.size(); c++) {
            agreed.put(List.of(c, open), agreesNow(c));
        }
        int done = 0;
        for (int i = 0; i < tips.size(); i++) {
            TipRow t = tips.get(i);
            if (t.day != open) {
                continue;
            }
            t.paid = t.halves;
            if (!agreed.get(List.of(t.cart, open))) {
                int before = 0;
                for (int k = 0; k < i; k++) {
                    if (tips.get(k).day == open && tips.get(k).cart == t.cart) {
                        before += tips.get(k).paid;
                    }
                }
                t.paid = Math.min(t.halves, gates.get(List.of(t.cart, open)) - before);
            }
            if (t.bin != NONE) {
                toBeCharged(t);
                done++;
            }
        }
        open++;
        return done;
    }

    private void toBeCharged(TipRow t) {
        BinRow b = bins.get(t.bin);
        b.wrongs += t.wrong ? 1 : 0;
        boolean third = t.wrong && b.wrongs > 2;
        int by = third ? 0 : b.kind;
        if (b.kind == 4) {
            int h = owner(b, t.day);
            if (h != NONE && bands.get(h) > 0) {
                bands.set(h, bands.get(h) - 1);
                by = NONE;
            }
        }
        int[] told = tables.getOrDefault(by, new int[2]);
        t.lift = told[0];
        t.rate = told[1];
        t.charged = true;
    }

    public long claim(int tip, int bin) {
        index(tip, tips);
        index(bin, bins);
        TipRow t = tips.get(tip);
        if (t.came != 2 || t.day == open) {
            throw new NoSuchElementException();
        }
        if (!bearers(t.mark).contains(bin)) {
            throw new IllegalArgumentException();
        }
        t.came = 3;
        t.bin = bin;
        toBeCharged(t);
        return charge(tip);
    }

    public int weigh(int tip, int grams) {
        index(tip, tips);
        TipRow t = tips.get(tip);
        if (t.weighing != 1) {
            throw new NoSuchElementException();
        }
        number(grams, 0, 200000);
        t.weighing = 2;
        t.halves = grams / 500;
        carries.set(t.cart, carries.get(t.cart) + grams - 500 * t.halves);
        if (t.day < open) {
            t.paid = 0;
            int others = 0;
            for (TipRow o : tips) {
                others += o.day == t.day && o.cart == t.cart ? o.paid : 0;
            }
            List<Integer> day = List.of(t.cart, t.day);
            t.paid = agreed.get(day) ? t.halves : Math.min(t.halves, gates.get(day) - others);
        }
        return t.halves;
    }

    public int look(int tip, int what) {
        index(tip, tips);
        what(what, 9);
        TipRow t = tips.get(tip);
        return List.of(t.day, t.cart, t.mark, t.halves, t.bin, t.came, t.weighing, t.paid,
            t.charged ? 1 : 0, t.wrong ? 1 : 0).get(what);
    }

    public long charge(int tip) {
        index(tip, tips);
        long sum = 0;
        for (int h = 0; h < houseStreets.size(); h++) {
            sum += share(tip, h);
        }
        return sum;
    }

    public long share(int tip, int house) {
        index(tip, tips);
        index(house, houseStreets);
        TipRow t = tips.get(tip);
        if (!t.charged) {
            return 0;
        }
        long sum = t.lift + (long) t.rate * t.paid;
        BinRow b = bins.get(t.bin);
        if (b.kind != 3) {
            return owner(b, t.day) == house ? sum : 0;
        }
        long all = 0;
        for (int h = 0; h < houseStreets.size(); h++) {
            all += weight(b, h, t.day);
        }
        if (all == 0 || weight(b, house, t.day) == 0) {
            return 0;
        }
        long left = sum;
        long before = 0;
        for (int h = 0; h < houseStreets.size(); h++) {
            left -= sum * weight(b, h, t.day) / all;
            before += h < house && weight(b, h, t.day) > 0 ? 1 : 0;
        }
        return sum * weight(b, house, t.day) / all + (before < left ? 1 : 0);
    }

    private static int owner(BinRow b, int day) {
        int house = NONE;
        for (Dated m : b.moves) {
            house = m.day() <= day ? m.house() : house;
        }
        return house;
    }

    private static int weight(BinRow b, int house, int day) {
        int weight = 0;
        for (Dated p : b.parts) {
            weight = p.house() == house && p.day() <= day ? p.weight() : weight;
        }
        return weight;
    }

    public long charged(int house) {
        index(house, houseStreets);
        long sum = bandSums.get(house);
        for (int i = 0; i < tips.size(); i++) {
            sum += share(i, house);
        }
        return sum;
    }

    public long bill(int house) {
        index(house, houseStreets);
        long sum = charged(house) - bills.get(house);
        bills.set(house, charged(house));
        return sum;
    }

    public long pay(int house, long sum) {
        index(house, houseStreets);
        number(sum, 1, 1000000000L);
        payments.set(house, payments.get(house) + sum);
        return bills.get(house) - payments.get(house);
    }

    public int middle(int bin) {
        index(bin, bins);
        return middleOf(bin);
    }

    private int middleOf(int bin) {
        List<Integer> all = new ArrayList<>();
        for (TipRow t : tips) {
            if (t.bin == bin && t.weighing == 0) {
                all.add(t.halves);
            }
        }
        List<Integer> five = new ArrayList<>(all.subList(Math.max(0, all.size() - 5), all.size()));
        Collections.sort(five);
        return five.isEmpty() ? 0 : five.get((five.size() + 1) / 2 - 1);
    }

    public int fill(int cart, int street, int group) {
        index(cart, limits);
        index(street, streets);
        number(group, 0, 2);
        long sum = halvesNow(cart);
        for (int h = 0; h < houseStreets.size(); h++) {
            for (int b = 0; b < bins.size(); b++) {
                boolean counts = houseStreets.get(h) == street && owner(bins.get(b), open) == h
                    && GROUP_OF_KIND[bins.get(b).kind] == group;
                sum += counts ? middleOf(b) : 0;
            }
            if (houseStreets.get(h) == street && sum > limits.get(cart)) {
                return h;
            }
        }
        return NONE;
    }

    private int halvesNow(int cart) {
        int sum = 0;
        for (TipRow t : tips) {
            sum += t.day == open && t.cart == cart ? t.halves : 0;
        }
        return sum;
    }

    private boolean agreesNow(int cart) {
        Integer gate = gates.get(List.of(cart, open));
        return gate == null || Math.abs(halvesNow(cart) - gate) * 1000L <= (long) tolerance * gate;
    }

    public int due(int bin) {
        index(bin, bins);
        int street = houseStreets.get(owner(bins.get(bin), open));
        for (int day = open; day < (open / 7 + 4) * 7; day++) {
            if (dayOfRound(street, GROUP_OF_KIND[bins.get(bin).kind], day / 7) == day) {
                return day;
            }
        }
        return NONE;
    }

    public int load(int cart, int what) {
        index(cart, limits);
        what(what, 4);
        return List.of(carries.get(cart), halvesNow(cart), gates.getOrDefault(List.of(cart, open), NONE),
            agreesNow(cart) ? 1 : 0, limits.get(cart)).get(what);
    }

    public int about(int house, int what) {
        index(house, houseStreets);
        what(what, 2);
        int had = 0;
        for (BinRow b : bins) {
            had += owner(b, open) == house ? 1 : 0;
        }
        return List.of(houseStreets.get(house), bands.get(house), had).get(what);
    }

    public int state(int bin, int what) {
        index(bin, bins);
        what(what, 6);
        BinRow b = bins.get(bin);
        return List.of(b.kind, b.mark == null ? 0 : 1, b.mark == null ? 0 : b.mark, owner(b, open), b.wrongs,
            b.moves.size(), b.parts.size()).get(what);
    }

    public long count(int what) {
        long tipSum = 0;
        for (int i = 0; i < tips.size(); i++) {
            tipSum += charge(i);
        }
        long bandSum = bandSums.stream().mapToLong(Long::longValue).sum();
        long paid = payments.stream().mapToLong(Long::longValue).sum();
        List<Long> all = List.of((long) open, (long) streets.size(), (long) houseStreets.size(), (long) bins.size(),
            (long) limits.size(), (long) tips.size(), tipSum, bandSum, tipSum + bandSum, paid);
        return what < 0 || what > 9 ? NONE : all.get(what);
    }
}
