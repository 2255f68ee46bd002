/** Promises 12, 16 to 18, 21 (an open day), 22, 28, 29 and 31: carts, tips, the middle, the gate. */
final class CartsTest {
    private static final Checks CHECKS = new Checks();
    private static final int NONE = BinRounds.NONE;

    public static void main(String[] args) {
        promise12Cart();
        promise16Tip();
        promise16Marks();
        promise16FoundOut();
        promise16Full();
        promise17Wrong();
        promise18Gate();
        promise21WeighOnAnOpenDay();
        promise22Look();
        promise28Middle();
        promise28ClaimedTips();
        promise29Fill();
        promise29FillByMovesAndGroups();
        promise31Load();
        promise31Agrees();
        CHECKS.end("CartsTest");
    }

    /** Street 0, houses 0 and 1, bins 0 to 4 of the kinds 0 to 4 at house 0 with marks 10 to 14, carts 0 and 1. */
    private static BinRounds town() {
        BinRounds x = new BinRounds();
        x.street();
        x.house(0);
        x.house(0);
        for (int kind = 0; kind < 5; kind++) {
            x.bin(kind, 0, 10 + kind);
        }
        x.cart(20);
        x.cart(100000);
        return x;
    }

    private static void tips(BinRounds x, int cart, int mark, int... grams) {
        for (int g : grams) {
            x.tip(cart, mark, g);
        }
    }

    private static void promise12Cart() {
        BinRounds x = new BinRounds();
        CHECKS.noNumber("limit -1", () -> x.cart(-1));
        CHECKS.noNumber("limit 100001", () -> x.cart(100001));
        CHECKS.due("limit 0", x.cart(0), 0);
        CHECKS.due("limit 100000", x.cart(100000), 1);
        for (int i = 2; i < 5; i++) {
            CHECKS.due("cart()", x.cart(i), i);
        }
        CHECKS.noRoom("cart 6", () -> x.cart(1));
        CHECKS.noNumber("cart 6, limit -1", () -> x.cart(-1));
        CHECKS.due("count(4)", x.count(4), 5);
    }

    private static void promise16Tip() {
        BinRounds x = town();
        CHECKS.noIndex("cart 2, grams -2", () -> x.tip(2, 10, -2));
        CHECKS.noIndex("cart -1", () -> x.tip(-1, 10, 0));
        CHECKS.noNumber("grams -2", () -> x.tip(0, 10, -2));
        CHECKS.noNumber("grams 200001", () -> x.tip(0, 10, 200001));
        CHECKS.due("no tip yet", x.count(5), 0);
        CHECKS.due("tip 0", x.tip(0, 10, 499), 0);
        CHECKS.due("499 grams are no half", x.look(0, 3), 0);
        CHECKS.due("all is carried", x.load(0, 0), 499);
        CHECKS.due("the other cart carries nothing", x.load(1, 0), 0);
        CHECKS.due("tip 1", x.tip(0, 11, 1), 1);
        CHECKS.due("one gram makes a half", x.look(1, 3), 1);
        CHECKS.due("nothing is carried", x.load(0, 0), 0);
        CHECKS.due("tip 2", x.tip(1, 12, 200000), 2);
        CHECKS.due("200000 grams", x.look(2, 3), 400);
        x.tip(0, 10, 1234);
        CHECKS.due("1234 grams", x.look(3, 3), 2);
        CHECKS.due("234 are carried", x.load(0, 0), 234);
        x.close();
        CHECKS.due("the carry goes on", x.load(0, 0), 234);
        CHECKS.due("numbers go on", x.tip(0, 10, 266), 4);
        CHECKS.due("with the carry", x.look(4, 3), 1);
        CHECKS.due("count(5)", x.count(5), 5);
    }

    private static void promise16Marks() {
        BinRounds x = town();
        CHECKS.due("its bin", x.look(x.tip(0, 13, 0), 4), 3);
        CHECKS.due("it has a bin", x.look(0, 5), 0);
        CHECKS.due("nobody's mark", x.look(x.tip(0, 99, 0), 4), NONE);
        CHECKS.due("unknown", x.look(1, 5), 1);
        x.mark(0, 13);
        CHECKS.due("two bear it", x.look(x.tip(0, 13, 0), 4), NONE);
        CHECKS.due("double", x.look(2, 5), 2);
        CHECKS.due("the first tip keeps its bin", x.look(0, 4), 3);
        x.lost(3);
        CHECKS.due("one bears it again", x.look(x.tip(0, 13, 0), 4), 0);
        CHECKS.due("the double one stays double", x.look(2, 5), 2);
        x.mark(3, 99);
        CHECKS.due("the unknown one stays unknown", x.look(1, 5), 1);
        CHECKS.due("and has no bin", x.look(1, 4), NONE);
    }

    private static void promise16FoundOut() {
        BinRounds x = town();
        CHECKS.due("no tip before", x.look(x.tip(0, 10, NONE), 3), 0);
        tips(x, 0, 10, 1000, 3000);
        CHECKS.due("the lower one of two", x.look(x.tip(0, 10, NONE), 3), 2);
        x.tip(0, 10, 5200);
        CHECKS.due("the middle of three", x.look(x.tip(0, 10, NONE), 3), 6);
        CHECKS.due("it carries nothing", x.load(0, 0), 200);
        CHECKS.due("found out", x.look(5, 6), 1);
        CHECKS.due("an unknown one", x.look(x.tip(0, 99, NONE), 3), 0);
        CHECKS.due("is found out, too", x.look(6, 6), 1);
        x.mark(1, 10);
        CHECKS.due("a double one", x.look(x.tip(0, 10, NONE), 3), 0);
        CHECKS.due("is found out, too", x.look(7, 6), 1);
    }

    private static void promise16Full() {
        BinRounds x = town();
        for (int i = 0; i < 600; i++) {
            x.tip(i % 2, 10, 0);
        }
        CHECKS.noRoom("tip 601", () -> x.tip(0, 10, 0));
        CHECKS.noNumber("tip 601, grams -2", () -> x.tip(0, 10, -2));
        CHECKS.due("count(5)", x.count(5), 600);
        CHECKS.due("close()", x.close(), 600);
        CHECKS.noRoom("tip 601 on another day", () -> x.tip(0, 10, 0));
    }

    private static void promise17Wrong() {
        BinRounds x = town();
        for (int kind = 0; kind < 5; kind++) {
            x.tip(0, 10 + kind, 0);
        }
        x.tip(0, 99, 0);
        CHECKS.noIndex("tip 6", () -> x.wrong(6));
        CHECKS.noIndex("tip -1", () -> x.wrong(-1));
        CHECKS.noNumber("kind 0", () -> x.wrong(0));
        CHECKS.noNumber("kind 3", () -> x.wrong(3));
        CHECKS.noNumber("kind 4", () -> x.wrong(4));
        CHECKS.noNumber("no bin", () -> x.wrong(5));
        CHECKS.due("green", x.wrong(1), true);
        CHECKS.due("green again", x.wrong(1), false);
        CHECKS.due("paper", x.wrong(2), true);
        CHECKS.due("told", x.look(2, 9), 1);
        CHECKS.due("not told", x.look(3, 9), 0);
        x.close();
        CHECKS.noSuch("a closed day", () -> x.wrong(1));
        CHECKS.noSuch("a closed day, kind 0", () -> x.wrong(0));
        x.tip(0, 12, 0);
        x.mark(4, 12);
        CHECKS.due("its bin is that it came of", x.wrong(6), true);
    }

    private static void promise18Gate() {
        BinRounds x = town();
        CHECKS.noIndex("cart 2, halves -1", () -> x.gate(2, -1));
        CHECKS.noIndex("cart -1", () -> x.gate(-1, 0));
        CHECKS.noNumber("halves -1", () -> x.gate(0, -1));
        CHECKS.noNumber("halves 1000001", () -> x.gate(0, 1000001));
        CHECKS.due("no gate yet", x.load(0, 2), NONE);
        x.gate(0, 0);
        CHECKS.due("gate 0", x.load(0, 2), 0);
        x.gate(0, 1000000);
        CHECKS.due("the latest counts", x.load(0, 2), 1000000);
        CHECKS.due("the other cart has none", x.load(1, 2), NONE);
        x.close();
        CHECKS.due("the next day has none", x.load(0, 2), NONE);
    }

    private static void promise21WeighOnAnOpenDay() {
        BinRounds x = town();
        tips(x, 0, 10, 3000, NONE, 450);
        CHECKS.due("found out", x.look(1, 3), 6);
        CHECKS.noIndex("tip 3", () -> x.weigh(3, -1));
        CHECKS.noIndex("tip -1", () -> x.weigh(-1, 0));
        CHECKS.noSuch("a weighed one, grams -1", () -> x.weigh(0, -1));
        CHECKS.noNumber("grams -1", () -> x.weigh(1, NONE));
        CHECKS.noNumber("grams 200001", () -> x.weigh(1, 200001));
        CHECKS.due("still found out", x.look(1, 6), 1);
        CHECKS.due("the carry is not asked", x.weigh(1, 999), 1);
        CHECKS.due("the rest comes to the carry", x.load(0, 0), 450 + 499);
        CHECKS.due("weighed later", x.look(1, 6), 2);
        CHECKS.due("halves of the day", x.load(0, 1), 6 + 1 + 0);
        CHECKS.due("nothing is paid yet", x.look(1, 7), 0);
        CHECKS.noSuch("weighed already", () -> x.weigh(1, 999));
        CHECKS.due("it does not count for the middle", x.middle(0), 0);
        x.tip(0, 10, 51);
        CHECKS.due("the next tip has all the carry", x.look(3, 3), 2);
        CHECKS.due("and leaves none", x.load(0, 0), 0);
        x.tip(1, 99, NONE);
        CHECKS.due("an unknown one, the most grams", x.weigh(4, 200000), 400);
    }

    private static void promise22Look() {
        BinRounds x = town();
        x.close();
        x.tip(1, 12, 700);
        x.tip(0, -3, NONE);
        x.wrong(0);
        int[] known = {1, 1, 12, 1, 2, 0, 0, 0, 0, 1};
        int[] unknown = {1, 0, -3, 0, NONE, 1, 1, 0, 0, 0};
        for (int what = 0; what < 10; what++) {
            CHECKS.due("look(0, " + what + ")", x.look(0, what), known[what]);
            CHECKS.due("look(1, " + what + ")", x.look(1, what), unknown[what]);
        }
        x.close();
        CHECKS.due("paid halves", x.look(0, 7), 1);
        CHECKS.due("charged, though for nothing", x.look(0, 8), 1);
        CHECKS.due("not charged", x.look(1, 8), 0);
        CHECKS.due("its day stays", x.look(0, 0), 1);
        CHECKS.noSuch("what 10", () -> x.look(0, 10));
        CHECKS.noSuch("what -1", () -> x.look(0, -1));
        CHECKS.noIndex("tip 2, what 10", () -> x.look(2, 10));
        CHECKS.noIndex("tip -1", () -> x.look(-1, 0));
    }

    private static void promise28Middle() {
        BinRounds x = town();
        CHECKS.due("of none", x.middle(0), 0);
        tips(x, 1, 10, 4500);
        CHECKS.due("of one", x.middle(0), 9);
        tips(x, 1, 10, 1000);
        CHECKS.due("of two", x.middle(0), 2);
        tips(x, 1, 10, 3000);
        CHECKS.due("of three", x.middle(0), 6);
        tips(x, 1, 10, 3500);
        CHECKS.due("of four", x.middle(0), 6);
        x.close();
        tips(x, 1, 10, 4000);
        CHECKS.due("of five, closed days too", x.middle(0), 7);
        tips(x, 1, 10, 500);
        CHECKS.due("of the latest five", x.middle(0), 6);
        tips(x, 1, 10, 0, 0);
        CHECKS.due("the same twice", x.middle(0), 1);
        tips(x, 1, 10, NONE, NONE, NONE);
        CHECKS.due("those found out do not count", x.middle(0), 1);
        tips(x, 1, 99, 9000);
        CHECKS.due("unknown ones do not count", x.middle(0), 1);
        CHECKS.due("another bin's", x.middle(1), 0);
        CHECKS.noIndex("bin 5", () -> x.middle(5));
        CHECKS.noIndex("bin -1", () -> x.middle(-1));
    }

    private static void promise28ClaimedTips() {
        BinRounds x = town();
        tips(x, 1, 10, 500);
        x.mark(1, 10);
        tips(x, 1, 10, 5000);
        x.mark(1, 11);
        tips(x, 1, 10, 1000, 1500, 2000, 2500);
        CHECKS.due("before claim()", x.middle(0), 3);
        x.close();
        x.mark(1, 10);
        x.claim(1, 0);
        CHECKS.due("by its own number: the fifth latest", x.middle(0), 4);
        x.mark(1, 11);
        tips(x, 1, 10, 2500);
        CHECKS.due("then it is the sixth", x.middle(0), 4);
        tips(x, 1, 10, 0, 0, 0);
        CHECKS.due("and counts no more", x.middle(0), 0);
    }

    private static void promise29Fill() {
        BinRounds x = town();
        x.bin(0, 1, 20);
        tips(x, 1, 10, 5000);
        tips(x, 1, 20, 5000);
        CHECKS.due("20 halves are not above 20", x.fill(0, 0, 0), NONE);
        tips(x, 0, 99, 499);
        CHECKS.due("a carry is no half", x.fill(0, 0, 0), NONE);
        tips(x, 0, 99, 1);
        CHECKS.due("21 are, with the second house", x.fill(0, 0, 0), 1);
        tips(x, 0, 99, 5000);
        CHECKS.due("with the first house", x.fill(0, 0, 0), 0);
        tips(x, 0, 99, 9000);
        CHECKS.due("full before the first house", x.fill(0, 0, 0), 0);
        CHECKS.due("another group, full as well", x.fill(0, 0, 1), 0);
        x.close();
        CHECKS.due("the next day the cart is empty", x.fill(0, 0, 0), NONE);
        CHECKS.due("a great limit", x.fill(1, 0, 0), NONE);
        CHECKS.noIndex("cart 2, group 3", () -> x.fill(2, 0, 3));
        CHECKS.noIndex("street 1, group 3", () -> x.fill(0, 1, 3));
        CHECKS.noIndex("cart -1", () -> x.fill(-1, 0, 0));
        CHECKS.noIndex("street -1", () -> x.fill(0, -1, 0));
        CHECKS.noNumber("group 3", () -> x.fill(0, 0, 3));
        CHECKS.noNumber("group -1", () -> x.fill(0, 0, -1));
    }

    private static void promise29FillByMovesAndGroups() {
        BinRounds x = town();
        x.street();
        x.house(1);
        x.cart(0);
        x.move(3, 1, 1);
        tips(x, 1, 13, 500);
        tips(x, 1, 12, 500);
        CHECKS.due("a shared one by its move", x.fill(2, 0, 0), 0);
        CHECKS.due("paper", x.fill(2, 0, 2), 0);
        CHECKS.due("green has nothing", x.fill(2, 0, 1), NONE);
        CHECKS.due("another street has nothing", x.fill(2, 1, 0), NONE);
        x.close();
        CHECKS.due("the shared one has moved", x.fill(2, 0, 0), 1);
        tips(x, 2, 99, 500);
        CHECKS.due("a street's first house, by its number", x.fill(2, 1, 0), 2);
        x.street();
        CHECKS.due("a street without houses", x.fill(2, 2, 0), NONE);
        tips(x, 1, 14, 500);
        x.close();
        CHECKS.due("a sack goes with the rest", x.fill(2, 0, 0), 0);
    }

    private static void promise31Load() {
        BinRounds x = town();
        tips(x, 0, 10, 1700);
        tips(x, 1, 99, 900);
        tips(x, 0, 99, 600);
        CHECKS.due("carry", x.load(0, 0), 300);
        CHECKS.due("carry of the other", x.load(1, 0), 400);
        CHECKS.due("halves", x.load(0, 1), 4);
        CHECKS.due("halves of the other", x.load(1, 1), 1);
        CHECKS.due("gate", x.load(0, 2), NONE);
        CHECKS.due("agrees without gate", x.load(0, 3), 1);
        CHECKS.due("limit", x.load(0, 4), 20);
        CHECKS.due("limit of the other", x.load(1, 4), 100000);
        x.close();
        CHECKS.due("halves of the next day", x.load(0, 1), 0);
        CHECKS.noSuch("what 5", () -> x.load(0, 5));
        CHECKS.noSuch("what -1", () -> x.load(0, -1));
        CHECKS.noIndex("cart 2, what 5", () -> x.load(2, 5));
        CHECKS.noIndex("cart -1", () -> x.load(-1, 0));
    }

    private static void promise31Agrees() {
        BinRounds x = town();
        x.gate(0, 0);
        CHECKS.due("nothing and gate 0", x.load(0, 3), 1);
        tips(x, 0, 10, 45000);
        CHECKS.due("90 and gate 0", x.load(0, 3), 0);
        x.gate(0, 90);
        CHECKS.due("90 and 90", x.load(0, 3), 1);
        x.gate(0, 100);
        CHECKS.due("90 and 100, tolerance 0", x.load(0, 3), 0);
        tips(x, 1, 10, 200000, 200000, 100500);
        x.gate(1, 1000);
        CHECKS.due("1001 and 1000, tolerance 0", x.load(1, 3), 0);
        x.terms(0, 1);
        CHECKS.due("1001 and 1000, tolerance 1", x.load(1, 3), 1);
        x.terms(0, 99);
        CHECKS.due("tolerance 99", x.load(0, 3), 0);
        x.terms(0, 100);
        CHECKS.due("tolerance 100", x.load(0, 3), 1);
        x.gate(0, 82);
        CHECKS.due("8 above 82", x.load(0, 3), 1);
        x.gate(0, 81);
        CHECKS.due("9 above 81", x.load(0, 3), 0);
        x.terms(0, 1000);
        x.gate(0, 1000000);
        CHECKS.due("tolerance 1000, a great gate", x.load(0, 3), 1);
        x.gate(0, 45);
        CHECKS.due("tolerance 1000, the double", x.load(0, 3), 1);
        x.gate(0, 44);
        CHECKS.due("tolerance 1000, above the double", x.load(0, 3), 0);
        CHECKS.due("the other cart's day", x.load(1, 3), 1);
        x.close();
        CHECKS.due("the next day", x.load(0, 3), 1);
    }
}
