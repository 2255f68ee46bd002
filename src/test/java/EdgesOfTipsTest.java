/**
 * The boundary cases of the document's second part (carts, tips, the middle, weigh()) and of promises 12, 16 to
 * 18, 21, 22, 28, 29 and 31: a test for each sentence, the number just inside and just outside. RefusalsTest
 * asks what a refused call leaves as it was.
 */
final class EdgesOfTipsTest {
    private static final Checks CHECKS = new Checks();
    private static final int NONE = BinRounds.NONE;
    private static final int MIN = Integer.MIN_VALUE;
    private static final int MAX = Integer.MAX_VALUE;

    public static void main(String[] args) {
        atMost5Carts();
        limits0To100000();
        theCarryIs0AtFirst();
        tipsAreNumberedAsTheyCame();
        atMost600Tips();
        gramsNoneTo200000();
        justOneBearsTheMark();
        noneOrSeveralBearTheMark();
        theBinAsItComes();
        halvesAreRoundedDown();
        theCarryIsTheRest();
        eachCartHasItsCarry();
        foundOutIsTheMiddleJustThen();
        foundOutWithoutBin();
        theMiddleOfNoneAndOne();
        theMiddleOfUpToFive();
        theMiddleOfTheLatestFive();
        theMiddleOfAnEvenNumber();
        theMiddleOfEqualHalves();
        theMiddleCountsWeighedTipsAlone();
        theMiddleOfClaimedTips();
        weighIsRoundedDown();
        weighPutsTheRestToTheCarry();
        weighFillsTheCarryAboveAHalf();
        weighOnce();
        weighDoesNotCountForTheMiddle();
        weighGrams0To200000();
        wrongIsToldOnce();
        wrongWhileItsDayIsOpen();
        wrongOfGreenAndPaperAlone();
        gates0To1000000();
        theLatestGateCounts();
        gatesOfTheOpenDayAlone();
        lookAtATip();
        fillAboveTheLimit();
        fillByHousesNumbers();
        fillOfAFullCart();
        fillByBinsOfToday();
        fillByGroups();
        loadOfTheOpenDay();
        CHECKS.end("EdgesOfTipsTest");
    }

    /** Street 0, houses 0 and 1, bins 0 to 4 of the kinds 0 to 4 at house 0 with marks 10 to 14, carts 0 and 1. */
    private static BinRounds town() {
        BinRounds x = new BinRounds();
        x.street();
        x.house(0);
        x.house(0);
        for (int kind = 0; kind < 5; kind++) {
            x.bin(kind, 0, 10 + kind);
        }
        x.cart(20);
        x.cart(100000);
        return x;
    }

    /** Weighed tips of so many halves each, of cart 1, which carries nothing then. */
    private static void halves(BinRounds x, int mark, int... halves) {
        for (int h : halves) {
            x.tip(1, mark, 500 * h);
        }
    }

    private static int foundOut(BinRounds x, int mark) {
        return x.look(x.tip(1, mark, NONE), 3);
    }

    // "CARTS (at most 5, numbered from 0 on)". "there are 5."
    private static void atMost5Carts() {
        BinRounds x = new BinRounds();
        for (int i = 0; i < 5; i++) {
            int cart = i;
            CHECKS.noIndex("cart " + i + " is not there yet", () -> x.load(cart, 4));
            CHECKS.due("cart " + i, x.cart(10 + i), i);
            CHECKS.due("its limit", x.load(i, 4), 10 + i);
        }
        CHECKS.noRoom("the sixth", () -> x.cart(10));
        CHECKS.due("five", x.count(4), 5);
        CHECKS.due("a tip of the last", x.tip(4, 7, 0), 0);
        CHECKS.noIndex("a tip of cart 5", () -> x.tip(5, 7, 0));
    }

    // "the LIMIT is not 0 to 100000"
    private static void limits0To100000() {
        BinRounds x = new BinRounds();
        for (int limit : new int[] {-1, 100001, MIN, MAX}) {
            CHECKS.noNumber("limit " + limit, () -> x.cart(limit));
        }
        CHECKS.due("limit 0", x.cart(0), 0);
        CHECKS.due("limit 100000", x.cart(100000), 1);
        CHECKS.due("told back", x.load(1, 4), 100000);
    }

    // "a CARRY, GRAMS, 0 at first"
    private static void theCarryIs0AtFirst() {
        BinRounds x = town();
        CHECKS.due("carry", x.load(0, 0), 0);
        CHECKS.due("halves", x.load(0, 1), 0);
        CHECKS.due("499 grams and no carry", x.look(x.tip(0, 10, 499), 3), 0);
        x.cart(0);
        CHECKS.due("a later cart's carry", x.load(2, 0), 0);
    }

    // "numbered from 0 on as they came (all CARTS and days together"
    private static void tipsAreNumberedAsTheyCame() {
        BinRounds x = town();
        CHECKS.noIndex("tip 0 is not there yet", () -> x.charge(0));
        CHECKS.due("the first", x.tip(1, 10, 0), 0);
        CHECKS.due("another cart's", x.tip(0, 10, 0), 1);
        x.close();
        x.close();
        CHECKS.due("another day's", x.tip(1, 99, NONE), 2);
        CHECKS.due("day of 1", x.look(1, 0), 0);
        CHECKS.due("day of 2", x.look(2, 0), 2);
        CHECKS.due("cart of 1", x.look(1, 1), 0);
        CHECKS.due("cart of 2", x.look(2, 1), 1);
        CHECKS.noIndex("tip 3", () -> x.charge(3));
    }

    // "at most 600)". "there are 600." Behind the 512th call.
    private static void atMost600Tips() {
        BinRounds x = town();
        for (int i = 0; i < 599; i++) {
            x.tip(i % 2, 10, 500);
        }
        CHECKS.due("the last one", x.tip(0, 10, 1000), 599);
        CHECKS.noRoom("the one behind it", () -> x.tip(0, 10, 1000));
        CHECKS.due("600", x.count(5), 600);
        CHECKS.due("all are charged", x.close(), 600);
        CHECKS.noRoom("days are together", () -> x.tip(1, 10, NONE));
    }

    // "grams NONE: not weighed. ... not NONE to 200000"
    private static void gramsNoneTo200000() {
        BinRounds x = town();
        for (int grams : new int[] {-2, 200001, MIN, MAX}) {
            CHECKS.noNumber("grams " + grams, () -> x.tip(0, 10, grams));
        }
        CHECKS.due("0 grams are weighed", x.look(x.tip(0, 10, 0), 6), 0);
        CHECKS.due("and are no half", x.look(0, 3), 0);
        CHECKS.due("200000 grams", x.look(x.tip(0, 10, 200000), 3), 400);
        CHECKS.due("NONE is not weighed", x.look(x.tip(0, 10, NONE), 6), 1);
        CHECKS.due("three came", x.count(5), 3);
    }

    // "if just one BIN bears its MARK as it comes: that"
    private static void justOneBearsTheMark() {
        BinRounds x = town();
        for (int i = 0; i < 5; i++) {
            int tip = x.tip(0, 10 + i, 0);
            CHECKS.due("its bin", x.look(tip, 4), i);
            CHECKS.due("it has one", x.look(tip, 5), 0);
        }
        x.mark(0, 11);
        x.lost(1);
        CHECKS.due("the one that is left", x.look(x.tip(0, 11, 0), 4), 0);
    }

    // "if none does it is UNKNOWN, if several do DOUBLE: it has no BIN"
    private static void noneOrSeveralBearTheMark() {
        BinRounds x = town();
        CHECKS.due("none", x.look(x.tip(0, 9, 0), 5), 1);
        CHECKS.due("no bin", x.look(0, 4), NONE);
        for (int i = 1; i < 5; i++) {
            x.mark(i, 10);
            CHECKS.due(i + 1 + " bear it", x.look(x.tip(0, 10, 0), 5), 2);
            CHECKS.due("no bin", x.look(i, 4), NONE);
        }
        CHECKS.due("nothing is charged", x.close(), 0);
        for (int i = 0; i < 4; i++) {
            x.lost(i);
        }
        CHECKS.due("one again", x.look(x.tip(0, 10, 0), 4), 4);
        x.lost(4);
        CHECKS.due("none again", x.look(x.tip(0, 10, 0), 5), 1);
    }

    // "as it comes"; "(till claim())"
    private static void theBinAsItComes() {
        BinRounds x = town();
        x.tip(0, 10, 0);
        x.tip(0, 99, 0);
        x.mark(1, 12);
        x.tip(0, 12, 0);
        x.mark(1, 99);
        x.lost(0);
        CHECKS.due("its bin bears none now", x.look(0, 4), 0);
        CHECKS.due("its mark stays", x.look(0, 2), 10);
        CHECKS.due("one bears the unknown one's mark now", x.look(1, 5), 1);
        CHECKS.due("one bears the double one's mark now", x.look(2, 5), 2);
        CHECKS.due("one is charged", x.close(), 1);
        CHECKS.noSuch("an unknown one is not claimed", () -> x.claim(1, 1));
        CHECKS.due("no bin till claim()", x.look(2, 4), NONE);
        x.claim(2, 2);
        CHECKS.due("then its bin", x.look(2, 4), 2);
        CHECKS.due("double but claimed", x.look(2, 5), 3);
    }

    // "HALVES of a weighed TIP: GRAMS and CARRY together by 500, rounded down"
    private static void halvesAreRoundedDown() {
        int[] grams = {0, 1, 499, 500, 501, 999, 1000, 1001, 199999, 200000};
        int[] due = {0, 0, 0, 1, 1, 1, 2, 2, 399, 400};
        for (int i = 0; i < grams.length; i++) {
            BinRounds x = town();
            CHECKS.due(grams[i] + " grams", x.look(x.tip(0, 10, grams[i]), 3), due[i]);
            CHECKS.due("its carry", x.load(0, 0), grams[i] - 500 * due[i]);
        }
    }

    // "CARRY is the rest."
    private static void theCarryIsTheRest() {
        BinRounds x = town();
        x.tip(0, 10, 499);
        CHECKS.due("499 and 0", x.look(x.tip(0, 10, 0), 3), 0);
        CHECKS.due("499 are carried on", x.load(0, 0), 499);
        CHECKS.due("499 and 1", x.look(x.tip(0, 10, 1), 3), 1);
        CHECKS.due("nothing is carried", x.load(0, 0), 0);
        x.tip(0, 10, 499);
        CHECKS.due("499 and 500", x.look(x.tip(0, 10, 500), 3), 1);
        CHECKS.due("499 again", x.load(0, 0), 499);
        CHECKS.due("499 and 200000", x.look(x.tip(0, 10, 200000), 3), 400);
        CHECKS.due("an unknown one takes it, too", x.look(x.tip(0, 99, 1), 3), 1);
        x.tip(0, 10, 499);
        x.close();
        CHECKS.due("it goes on to the next day", x.load(0, 0), 499);
        CHECKS.due("and to its first tip", x.look(x.tip(0, 10, 1), 3), 1);
    }

    // "CARTS ... have ... a CARRY"
    private static void eachCartHasItsCarry() {
        BinRounds x = town();
        x.tip(0, 10, 499);
        CHECKS.due("another cart's is 0", x.load(1, 0), 0);
        CHECKS.due("and it takes none of it", x.look(x.tip(1, 10, 1), 3), 0);
        CHECKS.due("499", x.load(0, 0), 499);
        CHECKS.due("1", x.load(1, 0), 1);
    }

    // "One not weighed is FOUND OUT: HALVES are the MIDDLE of its BIN just then"
    private static void foundOutIsTheMiddleJustThen() {
        BinRounds x = town();
        x.tip(1, 10, 250);
        CHECKS.due("0 halves", foundOut(x, 10), 0);
        x.tip(1, 10, 1250);
        CHECKS.due("the lower one of two", foundOut(x, 10), 0);
        halves(x, 10, 9);
        CHECKS.due("the middle of three", foundOut(x, 10), 3);
        CHECKS.due("it takes no carry and leaves none", x.load(1, 0), 0);
        x.tip(1, 99, 123);
        CHECKS.due("nor takes what is there", foundOut(x, 10), 3);
        CHECKS.due("nor changes it", x.load(1, 0), 123);
        halves(x, 10, 0, 0, 0, 0);
        CHECKS.due("just then, not later", x.look(5, 3), 3);
        CHECKS.due("the middle now", foundOut(x, 10), 0);
    }

    // "(0 without BIN)"; and 0 of a BIN without TIPS
    private static void foundOutWithoutBin() {
        BinRounds x = town();
        halves(x, 10, 8, 8, 8);
        CHECKS.due("a bin without tips", foundOut(x, 11), 0);
        CHECKS.due("an unknown one", foundOut(x, 99), 0);
        x.mark(1, 10);
        CHECKS.due("a double one", foundOut(x, 10), 0);
        x.close();
        x.claim(5, 0);
        CHECKS.due("it stays 0 when it is claimed", x.look(5, 3), 0);
        CHECKS.due("found out still", x.look(5, 6), 1);
    }

    // "0 of none."
    private static void theMiddleOfNoneAndOne() {
        BinRounds x = town();
        CHECKS.due("of none", x.middle(0), 0);
        halves(x, 11, 4);
        CHECKS.due("another bin's does not count", x.middle(0), 0);
        halves(x, 10, 7);
        CHECKS.due("of one", x.middle(0), 7);
    }

    // "five or as many as there are, HALVES in rising order: the middle one"
    private static void theMiddleOfUpToFive() {
        int[][] orders = {{1, 2, 3, 4, 5}, {5, 4, 3, 2, 1}, {3, 1, 5, 2, 4}, {4, 5, 1, 3, 2}, {2, 3, 4, 5, 1}};
        for (int[] order : orders) {
            BinRounds x = town();
            halves(x, 10, order);
            CHECKS.due("the third of five", x.middle(0), 3);
        }
        int[][] threes = {{1, 2, 3}, {1, 3, 2}, {2, 1, 3}, {2, 3, 1}, {3, 1, 2}, {3, 2, 1}};
        for (int[] order : threes) {
            BinRounds x = town();
            halves(x, 10, order);
            CHECKS.due("the second of three", x.middle(0), 2);
        }
    }

    // "of its latest TIPS ..., five"
    private static void theMiddleOfTheLatestFive() {
        BinRounds x = town();
        halves(x, 10, 9, 9, 9, 1, 2);
        CHECKS.due("of five", x.middle(0), 9);
        halves(x, 10, 3);
        CHECKS.due("of the latest five of six", x.middle(0), 3);
        x.close();
        halves(x, 10, 4);
        CHECKS.due("of the latest five of seven, on two days", x.middle(0), 3);
        halves(x, 10, 0);
        CHECKS.due("all great ones are behind", x.middle(0), 2);
        x.lost(0);
        CHECKS.due("without a mark the same", x.middle(0), 2);
    }

    // "of an even number the lower one"
    private static void theMiddleOfAnEvenNumber() {
        int[][] twos = {{3, 8}, {8, 3}};
        for (int[] two : twos) {
            BinRounds x = town();
            halves(x, 10, two);
            CHECKS.due("of two", x.middle(0), 3);
        }
        int[][] fours = {{1, 3, 8, 9}, {9, 8, 3, 1}, {8, 1, 9, 3}};
        for (int[] four : fours) {
            BinRounds x = town();
            halves(x, 10, four);
            CHECKS.due("of four", x.middle(0), 3);
        }
    }

    // "HALVES in rising order", some of them the same
    private static void theMiddleOfEqualHalves() {
        BinRounds x = town();
        halves(x, 10, 6, 6);
        CHECKS.due("of two", x.middle(0), 6);
        halves(x, 10, 1, 1);
        CHECKS.due("of four", x.middle(0), 1);
        halves(x, 10, 6);
        CHECKS.due("of five", x.middle(0), 6);
    }

    // "that were weighed as they came"
    private static void theMiddleCountsWeighedTipsAlone() {
        BinRounds x = town();
        halves(x, 10, 5, 1, 9);
        for (int i = 0; i < 7; i++) {
            CHECKS.due("found out", foundOut(x, 10), 5);
        }
        halves(x, 10, 2, 3);
        CHECKS.due("none of the seven counts", x.middle(0), 3);
        x.mark(1, 10);
        halves(x, 10, 0, 0, 0);
        CHECKS.due("nor do double ones", x.middle(0), 3);
        CHECKS.due("for the other neither", x.middle(1), 0);
        x.tip(1, 98, 0);
        CHECKS.due("nor unknown ones", x.middle(0), 3);
    }

    // "(TIPS that claim() gave it count by their own numbers.)"
    private static void theMiddleOfClaimedTips() {
        BinRounds x = townToClaim();
        CHECKS.due("of the four", x.middle(0), 2);
        x.claim(0, 0);
        CHECKS.due("the fifth latest", x.middle(0), 3);
        x.claim(1, 0);
        CHECKS.due("the fifth latest now, not the latest", x.middle(0), 2);
        BinRounds y = townToClaim();
        y.claim(1, 0);
        CHECKS.due("the fifth latest", y.middle(0), 2);
        y.claim(0, 0);
        CHECKS.due("the sixth latest, though claimed behind it", y.middle(0), 2);
        y.mark(1, 11);
        halves(y, 10, 9);
        CHECKS.due("both are behind the latest five", y.middle(0), 3);
        y.mark(1, 10);
        y.tip(1, 10, NONE);
        y.close();
        y.claim(7, 0);
        CHECKS.due("a claimed one that was found out does not count", y.middle(0), 3);
    }

    /** Tips 0 and 1, of 9 and 0 halves, are double; 2 to 5, of 1 to 4 halves, are bin 0's. Bins 0 and 1 bear 10. */
    private static BinRounds townToClaim() {
        BinRounds x = town();
        x.mark(1, 10);
        halves(x, 10, 9, 0);
        x.mark(1, 11);
        halves(x, 10, 1, 2, 3, 4);
        x.close();
        x.mark(1, 10);
        return x;
    }

    // "HALVES are GRAMS by 500, rounded down"
    private static void weighIsRoundedDown() {
        int[] grams = {0, 499, 500, 999, 1000, 200000};
        int[] due = {0, 0, 1, 1, 2, 400};
        for (int i = 0; i < grams.length; i++) {
            BinRounds x = town();
            x.tip(0, 10, 499);
            x.tip(0, 10, NONE);
            CHECKS.due("weigh() of " + grams[i], x.weigh(1, grams[i]), due[i]);
            CHECKS.due("its halves", x.look(1, 3), due[i]);
            CHECKS.due("the cart's halves", x.load(0, 1), due[i]);
        }
    }

    // "the rest comes to the CARRY"
    private static void weighPutsTheRestToTheCarry() {
        BinRounds x = town();
        x.tip(0, 10, NONE);
        x.tip(0, 10, NONE);
        x.weigh(0, 1499);
        CHECKS.due("499", x.load(0, 0), 499);
        CHECKS.due("the other cart's", x.load(1, 0), 0);
        CHECKS.due("the next weighed tip takes it", x.look(x.tip(0, 10, 1), 3), 1);
        CHECKS.due("nothing is left", x.load(0, 0), 0);
        x.tip(0, 10, 200);
        x.close();
        x.weigh(1, 2000);
        CHECKS.due("no rest", x.load(0, 0), 200);
        x.tip(1, 10, NONE);
        x.close();
        x.weigh(4, 5001);
        CHECKS.due("its own cart's, of a closed day", x.load(1, 0), 1);
    }

    // As above: the CARRY takes the rest as it is, so that it may be 500 or more till the next weighed TIP.
    private static void weighFillsTheCarryAboveAHalf() {
        BinRounds x = town();
        x.tip(0, 10, 499);
        x.tip(0, 10, NONE);
        x.tip(0, 10, NONE);
        x.weigh(1, 1);
        CHECKS.due("500", x.load(0, 0), 500);
        x.weigh(2, 999);
        CHECKS.due("999", x.load(0, 0), 999);
        CHECKS.due("a tip of 0 grams takes a half of it", x.look(x.tip(0, 10, 0), 3), 1);
        CHECKS.due("499", x.load(0, 0), 499);
    }

    // "is weighed later, once". "it is none, or was weighed already"
    private static void weighOnce() {
        BinRounds x = town();
        x.tip(0, 10, NONE);
        x.tip(0, 10, 0);
        x.tip(0, 99, NONE);
        CHECKS.noSuch("it was weighed as it came", () -> x.weigh(1, 0));
        CHECKS.due("an open day", x.weigh(0, 0), 0);
        CHECKS.noSuch("told twice, the same", () -> x.weigh(0, 0));
        CHECKS.due("weighed later", x.look(0, 6), 2);
        x.close();
        CHECKS.noSuch("told twice, closed", () -> x.weigh(0, 500));
        CHECKS.due("a closed day, without bin", x.weigh(2, 600), 1);
        CHECKS.noSuch("told twice", () -> x.weigh(2, 600));
        CHECKS.due("weighed as it came", x.look(1, 6), 0);
    }

    // "(It does not count for the MIDDLE.)"
    private static void weighDoesNotCountForTheMiddle() {
        BinRounds x = town();
        x.tip(1, 10, NONE);
        x.weigh(0, 5000);
        CHECKS.due("none counts", x.middle(0), 0);
        halves(x, 10, 1);
        x.tip(1, 10, NONE);
        x.close();
        x.weigh(2, 9000);
        CHECKS.due("one does", x.middle(0), 1);
        CHECKS.due("found out by it", foundOut(x, 10), 1);
    }

    // weigh(): "grams not 0 to 200000"
    private static void weighGrams0To200000() {
        BinRounds x = town();
        x.tip(0, 10, NONE);
        x.tip(0, 10, NONE);
        for (int grams : new int[] {-1, 200001, MIN, MAX}) {
            CHECKS.noNumber("grams " + grams, () -> x.weigh(0, grams));
        }
        CHECKS.due("still found out", x.look(0, 6), 1);
        CHECKS.due("0", x.weigh(0, 0), 0);
        CHECKS.due("200000", x.weigh(1, 200000), 400);
    }

    // wrong(): "whether that was not told of it yet."
    private static void wrongIsToldOnce() {
        BinRounds x = town();
        x.tip(0, 11, 0);
        x.tip(0, 11, 0);
        CHECKS.due("not told", x.look(0, 9), 0);
        CHECKS.due("told", x.wrong(0), true);
        CHECKS.due("told twice", x.wrong(0), false);
        CHECKS.due("told", x.look(0, 9), 1);
        CHECKS.due("another tip of the bin", x.wrong(1), true);
        CHECKS.due("none is counted while it is open", x.state(1, 4), 0);
        x.close();
        CHECKS.due("each is counted once", x.state(1, 4), 2);
    }

    // wrong(): "its day is closed"
    private static void wrongWhileItsDayIsOpen() {
        BinRounds x = town();
        x.tip(0, 12, 0);
        x.tip(0, 10, 0);
        x.close();
        CHECKS.noSuch("closed just now", () -> x.wrong(0));
        CHECKS.noSuch("closed, and another kind's", () -> x.wrong(1));
        CHECKS.due("not told", x.look(0, 9), 0);
        x.tip(0, 12, 0);
        CHECKS.due("open", x.wrong(2), true);
    }

    // wrong(): "its BIN is no GREEN or PAPER one (or it has none)."
    private static void wrongOfGreenAndPaperAlone() {
        BinRounds x = town();
        for (int kind = 0; kind < 5; kind++) {
            int tip = x.tip(0, 10 + kind, 0);
            if (kind == 1 || kind == 2) {
                CHECKS.due("kind " + kind, x.wrong(tip), true);
            } else {
                CHECKS.noNumber("kind " + kind, () -> x.wrong(tip));
            }
        }
        x.tip(0, 99, 0);
        x.mark(2, 11);
        x.tip(0, 11, 0);
        CHECKS.noNumber("unknown", () -> x.wrong(5));
        CHECKS.noNumber("double, of a green and a paper one", () -> x.wrong(6));
    }

    // gate(): "not 0 to 1000000."
    private static void gates0To1000000() {
        BinRounds x = town();
        for (int gate : new int[] {-1, 1000001, MIN, MAX}) {
            CHECKS.noNumber("gate " + gate, () -> x.gate(0, gate));
        }
        CHECKS.due("none is told", x.load(0, 2), NONE);
        x.gate(0, 0);
        CHECKS.due("0", x.load(0, 2), 0);
        x.gate(1, 1000000);
        CHECKS.due("1000000", x.load(1, 2), 1000000);
    }

    // "(told while it is OPEN; the latest counts)"
    private static void theLatestGateCounts() {
        BinRounds x = town();
        halves(x, 10, 3);
        x.gate(1, 3);
        x.gate(1, 2);
        CHECKS.due("the latest", x.load(1, 2), 2);
        CHECKS.due("does not agree", x.load(1, 3), 0);
        x.close();
        CHECKS.due("and is what is paid", x.look(0, 7), 2);
        halves(x, 10, 3);
        x.gate(1, 2);
        x.gate(1, 3);
        x.close();
        CHECKS.due("the latest agrees", x.look(1, 7), 3);
    }

    // "A CART's day may have a GATE"; "2 its GATE (NONE without one)"
    private static void gatesOfTheOpenDayAlone() {
        BinRounds x = town();
        x.gate(1, 0);
        CHECKS.due("the other cart's", x.load(0, 2), NONE);
        BinRounds y = town();
        y.gate(0, 0);
        CHECKS.due("the other cart's", y.load(1, 2), NONE);
        y.close();
        CHECKS.due("cart 0's is none on the next day", y.load(0, 2), NONE);
        halves(x, 10, 3);
        x.close();
        CHECKS.due("none on the next day", x.load(1, 2), NONE);
        CHECKS.due("which agrees", x.load(1, 3), 1);
        halves(x, 10, 3);
        x.close();
        CHECKS.due("paid under a gate of 0", x.look(0, 7), 0);
        CHECKS.due("paid without one", x.look(1, 7), 3);
    }

    // look(): "4 its BIN (NONE)"; "7 PAID HALVES (0 while its day is OPEN)"; "another what."
    private static void lookAtATip() {
        BinRounds x = town();
        x.close();
        x.tip(1, 11, 1600);
        x.wrong(0);
        x.tip(1, MIN, NONE);
        int[][] open = {{1, 1, 11, 3, 1, 0, 0, 0, 0, 1}, {1, 1, MIN, 0, NONE, 1, 1, 0, 0, 0}};
        int[][] closed = {{1, 1, 11, 3, 1, 0, 0, 3, 1, 1}, {1, 1, MIN, 0, NONE, 1, 1, 0, 0, 0}};
        for (int what = 0; what <= 9; what++) {
            CHECKS.due("open, what " + what, x.look(0, what), open[0][what]);
            CHECKS.due("open, unknown, what " + what, x.look(1, what), open[1][what]);
        }
        x.close();
        for (int what = 0; what <= 9; what++) {
            CHECKS.due("closed, what " + what, x.look(0, what), closed[0][what]);
            CHECKS.due("closed, unknown, what " + what, x.look(1, what), closed[1][what]);
        }
        for (int what : new int[] {-1, 10, MIN, MAX}) {
            CHECKS.noSuch("what " + what, () -> x.look(0, what));
        }
    }

    // fill(): "the first HOUSE with which they are above the LIMIT; NONE if there is none."
    private static void fillAboveTheLimit() {
        BinRounds x = town();
        halves(x, 10, 19);
        CHECKS.due("19 of 20", x.fill(0, 0, 0), NONE);
        halves(x, 13, 1);
        CHECKS.due("20 are not above 20", x.fill(0, 0, 0), NONE);
        x.tip(0, 99, 499);
        CHECKS.due("grams that are carried are none", x.fill(0, 0, 0), NONE);
        x.tip(0, 99, 1);
        CHECKS.due("21 are", x.fill(0, 0, 0), 0);
        x.close();
        CHECKS.due("the next day the cart is empty", x.fill(0, 0, 0), NONE);
        halves(x, 14, 1);
        CHECKS.due("21 by the bins alone", x.fill(0, 0, 0), 0);
        x.cart(0);
        CHECKS.due("limit 0 and a half", x.fill(2, 0, 0), 0);
        CHECKS.due("limit 0 and none", x.fill(2, 0, 1), NONE);
        CHECKS.due("a great limit", x.fill(1, 0, 0), NONE);
    }

    // fill(): "by HOUSES' numbers"
    private static void fillByHousesNumbers() {
        BinRounds x = town();
        x.street();
        x.house(1);
        x.house(0);
        x.bin(0, 3, 23);
        x.bin(0, 1, 21);
        x.bin(0, 2, 22);
        halves(x, 23, 1);
        halves(x, 21, 10);
        halves(x, 10, 10);
        halves(x, 22, 21);
        CHECKS.due("houses 0, 1 and 3 of the street", x.fill(0, 0, 0), 3);
        CHECKS.due("house 2 of the other", x.fill(0, 1, 0), 2);
        x.tip(0, 99, 500);
        CHECKS.due("a half in the cart: with house 1", x.fill(0, 0, 0), 1);
        x.street();
        CHECKS.due("a street without houses", x.fill(0, 2, 0), NONE);
    }

    // As above: with a cart that is above its LIMIT the first HOUSE is the street's first one.
    private static void fillOfAFullCart() {
        BinRounds x = town();
        x.street();
        x.house(1);
        x.tip(0, 99, 10000);
        CHECKS.due("just full", x.fill(0, 0, 0), NONE);
        CHECKS.due("just full, another street", x.fill(0, 1, 0), NONE);
        x.tip(0, 99, 500);
        CHECKS.due("above it", x.fill(0, 0, 0), 0);
        CHECKS.due("above it, another street", x.fill(0, 1, 0), 2);
        x.street();
        CHECKS.due("above it, no house", x.fill(0, 2, 0), NONE);
    }

    // fill(): "the BINS of that GROUP that it has on the day that is OPEN (of SHARED ones, too, by their MOVES)"
    private static void fillByBinsOfToday() {
        BinRounds x = town();
        x.cart(0);
        halves(x, 13, 2);
        x.part(3, 1, 5, 0);
        CHECKS.due("a shared one's house, not its parts'", x.fill(2, 0, 0), 0);
        x.move(3, 1, 1);
        CHECKS.due("the day before its move", x.fill(2, 0, 0), 0);
        x.close();
        CHECKS.due("the day of its move", x.fill(2, 0, 0), 1);
        x.lost(3);
        CHECKS.due("without a mark", x.fill(2, 0, 0), 1);
    }

    // fill(): "the BINS of that GROUP"; "no such GROUP."
    private static void fillByGroups() {
        int[] groups = {0, 1, 2, 0, 0};
        for (int kind = 0; kind < 5; kind++) {
            BinRounds x = town();
            x.cart(0);
            halves(x, 10 + kind, 1);
            for (int group = 0; group < 3; group++) {
                CHECKS.due("kind " + kind + ", group " + group, x.fill(2, 0, group), groups[kind] == group ? 0 : NONE);
            }
        }
        BinRounds x = town();
        for (int group : new int[] {-1, 3, MIN, MAX}) {
            CHECKS.noNumber("group " + group, () -> x.fill(0, 0, group));
        }
    }

    // load(): "1 HALVES of its TIPS of the day that is OPEN"; "another what."
    private static void loadOfTheOpenDay() {
        BinRounds x = town();
        halves(x, 10, 3);
        x.tip(1, 10, NONE);
        x.tip(1, 99, 700);
        x.tip(0, 10, 500);
        CHECKS.due("weighed, found out and unknown", x.load(1, 1), 7);
        x.weigh(1, 0);
        CHECKS.due("weighed later", x.load(1, 1), 4);
        CHECKS.due("the other cart's", x.load(0, 1), 1);
        x.close();
        CHECKS.due("none on the next day", x.load(1, 1), 0);
        for (int what : new int[] {-1, 5, MIN, MAX}) {
            CHECKS.noSuch("what " + what, () -> x.load(0, what));
        }
    }
}
