import java.util.List;
import java.util.NoSuchElementException;
import java.util.function.Consumer;
import java.util.function.Supplier;

/**
 * "Of several exceptions the one told first is thrown; a call that throws changes nothing." Each refused
 * call of each promise: the exception that the document names, and that all that other calls tell stands
 * as before, at once and when the town goes on.
 */
final class RefusalsTest {
    private static final Checks CHECKS = new Checks();
    private static final Class<IndexOutOfBoundsException> INDEX = IndexOutOfBoundsException.class;
    private static final Class<IllegalArgumentException> NUMBER = IllegalArgumentException.class;
    private static final Class<UnsupportedOperationException> ROOM = UnsupportedOperationException.class;
    private static final Class<NoSuchElementException> NO_SUCH = NoSuchElementException.class;
    private static final int NONE = BinRounds.NONE;
    private static final int MIN = Integer.MIN_VALUE;
    private static final int MAX = Integer.MAX_VALUE;

    /** A town, what it tells, and one call at a time that it has to refuse. */
    private static final class Refuser {
        private final Supplier<BinRounds> town;
        private final List<String> now;
        private final List<String> later;

        Refuser(Supplier<BinRounds> town) {
            this.town = town;
            now = Told.now(town);
            later = Told.later(town);
        }

        void refuses(Class<? extends RuntimeException> want, String call, Consumer<BinRounds> asked) {
            BinRounds x = town.get();
            CHECKS.refuses(call, want, () -> asked.accept(x));
            CHECKS.same("after " + call, Told.now(() -> refusing(asked)), now);
            CHECKS.same("later, after " + call, Told.later(() -> refusing(asked)), later);
        }

        private BinRounds refusing(Consumer<BinRounds> asked) {
            BinRounds x = town.get();
            try {
                asked.accept(x);
            } catch (RuntimeException e) {
                return x; // which exception it is, refuses() has asked
            }
            return x;
        }
    }

    private static Refuser small;
    private static Refuser full;

    public static void main(String[] args) {
        small = new Refuser(RefusalsTest::smallTown);
        full = new Refuser(RefusalsTest::fullTown);
        promise2Street();
        promise3Round();
        promise4Holiday();
        promise5When();
        promise6House();
        promise7Bin();
        promise8MarkAnd9Lost();
        promise10Move();
        promise11Part();
        promise12Cart();
        promise13Table();
        promise14Terms();
        promise15Band();
        promise16Tip();
        promise16TipOf600();
        promise17Wrong();
        promise18Gate();
        promise19Close();
        promise20Claim();
        promise21Weigh();
        promise22Look();
        promises23To26();
        promise27Pay();
        promises28To30();
        promises31To33();
        CHECKS.end("RefusalsTest");
    }

    // ---- the towns ----

    /**
     * Day 8 is open. Bins 0 and 5 bear mark 10, bin 8 bears none, bin 6 has 20 parts, bin 7 has 8 moves; bin 0
     * moves on day 20 and bin 3 has a part from day 20 on.
     */
    private static BinRounds smallTown() {
        BinRounds x = new BinRounds();
        streetsAndHouses(x);
        bins(x);
        movesAndParts(x);
        x.cart(20);
        x.cart(100000);
        x.table(0, 100, 1);
        x.table(1, 200, 2);
        x.table(3, 300, 3);
        x.table(4, 400, 4);
        x.terms(30, 100);
        x.band(0, 2);
        x.band(1, 1);
        closedTips(x);
        openTips(x);
        return x;
    }

    private static void streetsAndHouses(BinRounds x) {
        x.street();
        x.street();
        x.round(0, 0, 0, 3);
        x.round(0, 1, 2, 1);
        x.round(0, 2, 4, 2);
        x.round(1, 0, 3, 3);
        x.holiday(9, true);
        x.house(0);
        x.house(0);
        x.house(1);
    }

    private static void bins(BinRounds x) {
        x.bin(0, 0, 10);
        x.bin(1, 0, 11);
        x.bin(2, 1, 12);
        x.bin(3, 0, 13);
        x.bin(4, 1, 14);
        x.bin(0, 2, 10);
        x.bin(3, 2, 15);
        x.bin(0, 1, 16);
        x.bin(0, 2, 17);
        x.lost(8);
    }

    private static void movesAndParts(BinRounds x) {
        x.move(0, 1, 20);
        x.part(3, 0, 2, 0);
        x.part(3, 2, 1, 0);
        x.part(3, 1, 3, 20);
        for (int i = 0; i < 20; i++) {
            x.part(6, i % 3, 1 + i, i);
        }
        for (int i = 0; i < 7; i++) {
            x.move(7, i % 3, 2 * i);
        }
    }

    /** Tips 0 to 6, of day 0: 1 is double, 2 claimed, 3 found out, 4 weighed later, 5 unknown, 6 found out. */
    private static void closedTips(BinRounds x) {
        x.tip(0, 11, 1700);
        x.wrong(0);
        x.tip(0, 10, 900);
        x.tip(1, 10, 1400);
        x.tip(1, 13, NONE);
        x.tip(1, 14, NONE);
        x.tip(0, 99, 5200);
        x.tip(0, 16, NONE);
        x.gate(0, 9);
        for (int i = 0; i < 8; i++) {
            x.close();
        }
        x.claim(2, 5);
        x.weigh(4, 2300);
        x.bill(0);
        x.pay(0, 50);
        x.bill(1);
    }

    /** Tips 7 to 14, of day 8: 7 and 8 are green's, 9 paper's, 10 the shared one's, 11 unknown, 12 double, 13 a sack's. */
    private static void openTips(BinRounds x) {
        x.tip(0, 11, 1000);
        x.tip(0, 11, 600);
        x.tip(0, 12, NONE);
        x.tip(1, 13, NONE);
        x.tip(1, 99, 800);
        x.tip(1, 10, NONE);
        x.tip(1, 14, 2000);
        x.tip(1, 16, 500);
        x.wrong(8);
        x.gate(1, 6);
    }

    /** 10 streets, 60 houses, 120 bins, 5 carts: there can be no more. */
    private static BinRounds fullTown() {
        BinRounds x = new BinRounds();
        for (int i = 0; i < 10; i++) {
            x.street();
        }
        for (int i = 0; i < 60; i++) {
            x.house(i % 10);
        }
        for (int i = 0; i < 120; i++) {
            x.bin(i % 5, i % 60, i);
        }
        for (int i = 0; i < 5; i++) {
            x.cart(10 * i);
        }
        x.tip(0, 10, 700);
        return x;
    }

    /** A number below the first and one behind the last, and the least and the greatest of all. */
    private static int[] outside(int first, int last) {
        return new int[] {first - 1, last + 1, MIN, MAX};
    }

    // ---- streets, rounds, holidays ----

    private static void promise2Street() {
        full.refuses(ROOM, "street 11", BinRounds::street);
    }

    private static void promise3Round() {
        for (int i : outside(0, 1)) {
            small.refuses(INDEX, "round street " + i, x -> x.round(i, 0, 1, 1));
        }
        for (int i : outside(0, 2)) {
            small.refuses(NUMBER, "round group " + i, x -> x.round(0, i, 1, 1));
        }
        for (int i : outside(0, 4)) {
            small.refuses(NUMBER, "round weekday " + i, x -> x.round(0, 0, i, 1));
            small.refuses(NUMBER, "round none, weekday " + i, x -> x.round(0, 0, i, 0));
        }
        for (int i : outside(0, 3)) {
            small.refuses(NUMBER, "round weeks " + i, x -> x.round(0, 0, 1, i));
        }
        small.refuses(INDEX, "round no street, no group", x -> x.round(2, 3, 5, 4));
    }

    private static void promise4Holiday() {
        for (int i : new int[] {7, 0, -1, 700, MIN, MAX}) {
            small.refuses(NUMBER, "holiday " + i, x -> x.holiday(i, true));
            small.refuses(NUMBER, "no holiday " + i, x -> x.holiday(i, false));
        }
    }

    private static void promise5When() {
        for (int i : outside(0, 1)) {
            small.refuses(INDEX, "when street " + i, x -> x.when(i, 0, 0));
        }
        for (int i : outside(0, 2)) {
            small.refuses(NUMBER, "when group " + i, x -> x.when(0, i, 0));
        }
        for (int i : outside(0, 99)) {
            small.refuses(NUMBER, "when week " + i, x -> x.when(0, 0, i));
        }
        small.refuses(INDEX, "when no street, no group, no week", x -> x.when(2, 3, 100));
    }

    // ---- houses, bins, moves, parts ----

    private static void promise6House() {
        for (int i : outside(0, 1)) {
            small.refuses(INDEX, "house street " + i, x -> x.house(i));
        }
        full.refuses(ROOM, "house 61", x -> x.house(9));
        full.refuses(INDEX, "house 61, no street", x -> x.house(10));
    }

    private static void promise7Bin() {
        for (int i : outside(0, 2)) {
            small.refuses(INDEX, "bin house " + i, x -> x.bin(0, i, 10));
        }
        for (int i : outside(0, 4)) {
            small.refuses(NUMBER, "bin kind " + i, x -> x.bin(i, 0, 10));
        }
        small.refuses(INDEX, "bin no house, no kind", x -> x.bin(5, 3, 10));
        full.refuses(ROOM, "bin 121", x -> x.bin(0, 0, 10));
        full.refuses(NUMBER, "bin 121, no kind", x -> x.bin(5, 0, 10));
        full.refuses(INDEX, "bin 121, no house, no kind", x -> x.bin(5, 60, 10));
    }

    private static void promise8MarkAnd9Lost() {
        for (int i : outside(0, 8)) {
            small.refuses(INDEX, "mark bin " + i, x -> x.mark(i, 10));
            small.refuses(INDEX, "lost bin " + i, x -> x.lost(i));
        }
    }

    private static void promise10Move() {
        for (int i : outside(0, 8)) {
            small.refuses(INDEX, "move bin " + i, x -> x.move(i, 0, 30));
        }
        for (int i : outside(0, 2)) {
            small.refuses(INDEX, "move house " + i, x -> x.move(1, i, 30));
        }
        for (int i : new int[] {7, -1, 700, MIN, MAX}) {
            small.refuses(NUMBER, "move day " + i, x -> x.move(1, 2, i));
        }
        small.refuses(NUMBER, "move below the latest move", x -> x.move(0, 2, 19));
        small.refuses(NUMBER, "move below the latest move, on the open day", x -> x.move(0, 2, 8));
        small.refuses(ROOM, "move 9", x -> x.move(7, 0, 12));
        small.refuses(NUMBER, "move 9, below the latest move", x -> x.move(7, 0, 11));
        small.refuses(NUMBER, "move 9, day 700", x -> x.move(7, 0, 700));
        small.refuses(INDEX, "move 9, no house, day 700", x -> x.move(7, 3, 700));
        small.refuses(INDEX, "move no bin, no house, day 700", x -> x.move(9, 3, 700));
    }

    private static void promise11Part() {
        for (int i : outside(0, 8)) {
            small.refuses(INDEX, "part bin " + i, x -> x.part(i, 0, 1, 30));
        }
        for (int i : outside(0, 2)) {
            small.refuses(INDEX, "part house " + i, x -> x.part(3, i, 1, 30));
        }
        for (int bin : new int[] {0, 1, 2, 4}) {
            small.refuses(NUMBER, "part of kind " + bin, x -> x.part(bin, 0, 1, 30));
        }
        for (int i : outside(0, 1000)) {
            small.refuses(NUMBER, "part weight " + i, x -> x.part(3, 0, i, 30));
        }
        for (int i : new int[] {7, -1, 700, MIN, MAX}) {
            small.refuses(NUMBER, "part day " + i, x -> x.part(3, 0, 1, i));
        }
        small.refuses(NUMBER, "part below the latest part", x -> x.part(3, 0, 1, 19));
        small.refuses(ROOM, "part 21", x -> x.part(6, 0, 1, 19));
        small.refuses(NUMBER, "part 21, weight -1", x -> x.part(6, 0, -1, 19));
        small.refuses(NUMBER, "part 21, below the latest part", x -> x.part(6, 0, 1, 18));
        small.refuses(INDEX, "part 21, no house, weight -1", x -> x.part(6, 3, -1, 19));
        small.refuses(INDEX, "part no house, another kind", x -> x.part(0, 3, 1, 30));
    }

    // ---- carts, tables, terms, bands ----

    private static void promise12Cart() {
        for (int i : outside(0, 100000)) {
            small.refuses(NUMBER, "cart limit " + i, x -> x.cart(i));
            full.refuses(NUMBER, "cart 6, limit " + i, x -> x.cart(i));
        }
        full.refuses(ROOM, "cart 6", x -> x.cart(0));
    }

    private static void promise13Table() {
        for (int i : new int[] {-1, 2, 5, MIN, MAX}) {
            small.refuses(NUMBER, "table kind " + i, x -> x.table(i, 5, 6));
        }
        for (int i : outside(0, 100000)) {
            small.refuses(NUMBER, "table lift " + i, x -> x.table(0, i, 6));
            small.refuses(NUMBER, "table rate " + i, x -> x.table(0, 5, i));
        }
    }

    private static void promise14Terms() {
        for (int i : outside(0, 100000)) {
            small.refuses(NUMBER, "terms price " + i, x -> x.terms(i, 0));
        }
        for (int i : outside(0, 1000)) {
            small.refuses(NUMBER, "terms tolerance " + i, x -> x.terms(1, i));
        }
    }

    private static void promise15Band() {
        for (int i : outside(0, 2)) {
            small.refuses(INDEX, "band house " + i, x -> x.band(i, 1));
        }
        for (int i : outside(1, 1000)) {
            small.refuses(NUMBER, "band n " + i, x -> x.band(0, i));
        }
        small.refuses(INDEX, "band no house, n 0", x -> x.band(3, 0));
    }

    // ---- tips and the day ----

    private static void promise16Tip() {
        for (int i : outside(0, 1)) {
            small.refuses(INDEX, "tip cart " + i, x -> x.tip(i, 11, 700));
        }
        for (int i : outside(NONE, 200000)) {
            small.refuses(NUMBER, "tip grams " + i, x -> x.tip(0, 11, i));
        }
        small.refuses(INDEX, "tip no cart, grams -2", x -> x.tip(2, 11, -2));
    }

    /** Behind the 512th call: each town is asked more than the document promises. */
    private static void promise16TipOf600() {
        Supplier<BinRounds> town = () -> {
            BinRounds x = smallTown();
            for (int i = 15; i < 600; i++) {
                x.tip(0, 11, i);
            }
            return x;
        };
        List<String> before = Told.now(town);
        BinRounds x = town.get();
        CHECKS.refuses("tip 601", ROOM, () -> x.tip(0, 11, 700));
        CHECKS.refuses("tip 601, not weighed", ROOM, () -> x.tip(0, 11, NONE));
        CHECKS.refuses("tip 601, grams 200001", NUMBER, () -> x.tip(0, 11, 200001));
        CHECKS.refuses("tip 601, no cart, grams 200001", INDEX, () -> x.tip(2, 11, 200001));
        CHECKS.same("after tip 601", Told.now(() -> x), before);
    }

    private static void promise17Wrong() {
        for (int i : outside(0, 14)) {
            small.refuses(INDEX, "wrong tip " + i, x -> x.wrong(i));
        }
        small.refuses(NO_SUCH, "wrong, a closed day, told already", x -> x.wrong(0));
        small.refuses(NO_SUCH, "wrong, a closed day, no bin", x -> x.wrong(5));
        small.refuses(NO_SUCH, "wrong, a closed day, another kind", x -> x.wrong(3));
        small.refuses(NUMBER, "wrong, kind 0", x -> x.wrong(14));
        small.refuses(NUMBER, "wrong, kind 3", x -> x.wrong(10));
        small.refuses(NUMBER, "wrong, kind 4", x -> x.wrong(13));
        small.refuses(NUMBER, "wrong, unknown", x -> x.wrong(11));
        small.refuses(NUMBER, "wrong, double", x -> x.wrong(12));
    }

    private static void promise18Gate() {
        for (int i : outside(0, 1)) {
            small.refuses(INDEX, "gate cart " + i, x -> x.gate(i, 5));
        }
        for (int i : outside(0, 1000000)) {
            small.refuses(NUMBER, "gate halves " + i, x -> x.gate(0, i));
            small.refuses(NUMBER, "gate told, halves " + i, x -> x.gate(1, i));
        }
        small.refuses(INDEX, "gate no cart, halves -1", x -> x.gate(2, -1));
    }

    /** Behind the 512th call: each town is asked more than the document promises. */
    private static void promise19Close() {
        BinRounds x = smallTown();
        for (int i = 8; i < 699; i++) {
            x.close();
        }
        x.tip(0, 11, 700);
        x.wrong(15);
        x.gate(0, 0);
        List<String> before = Told.now(() -> x);
        CHECKS.refuses("close, day 699", ROOM, x::close);
        CHECKS.same("after close, day 699", Told.now(() -> x), before);
    }

    private static void promise20Claim() {
        for (int i : outside(0, 14)) {
            small.refuses(INDEX, "claim tip " + i, x -> x.claim(i, 0));
        }
        for (int i : outside(0, 8)) {
            small.refuses(INDEX, "claim bin " + i, x -> x.claim(1, i));
        }
        small.refuses(INDEX, "claim no bin, not double", x -> x.claim(0, 9));
        small.refuses(NO_SUCH, "claim, it has a bin", x -> x.claim(0, 1));
        small.refuses(NO_SUCH, "claim, unknown", x -> x.claim(5, 0));
        small.refuses(NO_SUCH, "claim, claimed", x -> x.claim(2, 0));
        small.refuses(NO_SUCH, "claim, claimed, the same bin", x -> x.claim(2, 5));
        small.refuses(NO_SUCH, "claim, its day is open", x -> x.claim(12, 0));
        small.refuses(NO_SUCH, "claim, its day is open, another mark", x -> x.claim(12, 1));
        small.refuses(NUMBER, "claim, another mark", x -> x.claim(1, 1));
        small.refuses(NUMBER, "claim, no mark", x -> x.claim(1, 8));
    }

    private static void promise21Weigh() {
        for (int i : outside(0, 14)) {
            small.refuses(INDEX, "weigh tip " + i, x -> x.weigh(i, 700));
        }
        for (int i : outside(0, 200000)) {
            small.refuses(NUMBER, "weigh of a closed day, grams " + i, x -> x.weigh(3, i));
            small.refuses(NUMBER, "weigh of the open day, grams " + i, x -> x.weigh(10, i));
        }
        small.refuses(NO_SUCH, "weigh, it was weighed", x -> x.weigh(0, 700));
        small.refuses(NO_SUCH, "weigh, it was weighed, the open day", x -> x.weigh(7, 700));
        small.refuses(NO_SUCH, "weigh, weighed later", x -> x.weigh(4, 700));
        small.refuses(NO_SUCH, "weigh, weighed later, grams -1", x -> x.weigh(4, -1));
        small.refuses(INDEX, "weigh no tip, grams -1", x -> x.weigh(15, -1));
    }

    // ---- what is told ----

    private static void promise22Look() {
        for (int i : outside(0, 14)) {
            small.refuses(INDEX, "look tip " + i, x -> x.look(i, 10));
        }
        for (int i : outside(0, 9)) {
            small.refuses(NO_SUCH, "look what " + i, x -> x.look(0, i));
        }
    }

    private static void promises23To26() {
        for (int i : outside(0, 14)) {
            small.refuses(INDEX, "charge tip " + i, x -> x.charge(i));
            small.refuses(INDEX, "share tip " + i, x -> x.share(i, 0));
        }
        for (int i : outside(0, 2)) {
            small.refuses(INDEX, "share house " + i, x -> x.share(0, i));
            small.refuses(INDEX, "charged house " + i, x -> x.charged(i));
            small.refuses(INDEX, "bill house " + i, x -> x.bill(i));
        }
    }

    private static void promise27Pay() {
        for (int i : outside(0, 2)) {
            small.refuses(INDEX, "pay house " + i, x -> x.pay(i, 1));
        }
        long[] sums = {0, -1, 1000000001L, Long.MIN_VALUE, Long.MAX_VALUE, (1L << 32) + 1, -(1L << 32) + 1};
        for (long i : sums) {
            small.refuses(NUMBER, "pay sum " + i, x -> x.pay(0, i));
        }
        small.refuses(INDEX, "pay no house, sum 0", x -> x.pay(3, 0));
    }

    private static void promises28To30() {
        for (int i : outside(0, 8)) {
            small.refuses(INDEX, "middle bin " + i, x -> x.middle(i));
            small.refuses(INDEX, "due bin " + i, x -> x.due(i));
        }
        for (int i : outside(0, 1)) {
            small.refuses(INDEX, "fill cart " + i, x -> x.fill(i, 0, 3));
            small.refuses(INDEX, "fill street " + i, x -> x.fill(0, i, 3));
        }
        for (int i : outside(0, 2)) {
            small.refuses(NUMBER, "fill group " + i, x -> x.fill(0, 0, i));
        }
    }

    private static void promises31To33() {
        for (int i : outside(0, 1)) {
            small.refuses(INDEX, "load cart " + i, x -> x.load(i, 5));
        }
        for (int i : outside(0, 4)) {
            small.refuses(NO_SUCH, "load what " + i, x -> x.load(0, i));
        }
        for (int i : outside(0, 2)) {
            small.refuses(INDEX, "about house " + i, x -> x.about(i, 3));
            small.refuses(NO_SUCH, "about what " + i, x -> x.about(0, i));
        }
        for (int i : outside(0, 8)) {
            small.refuses(INDEX, "state bin " + i, x -> x.state(i, 7));
        }
        for (int i : outside(0, 6)) {
            small.refuses(NO_SUCH, "state what " + i, x -> x.state(0, i));
        }
    }
}
