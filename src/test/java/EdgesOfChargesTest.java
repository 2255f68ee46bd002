/**
 * The boundary cases of the document's third part (tables, gates, charges, shares, sums) and of promises 13 to
 * 15, 19 to 21, 23 to 27 and 34: a test for each sentence, the number just inside and just outside. RefusalsTest
 * asks what a refused call leaves as it was.
 */
final class EdgesOfChargesTest {
    private static final Checks CHECKS = new Checks();
    private static final int NONE = BinRounds.NONE;
    private static final int MIN = Integer.MIN_VALUE;
    private static final int MAX = Integer.MAX_VALUE;

    public static void main(String[] args) {
        tablesAre0AtFirst();
        tablesOfFourKinds();
        liftsAndRates0To100000();
        pricesAndTolerances();
        bands1To1000();
        theToleranceIsNotExceeded();
        theToleranceIs0AtFirst();
        toleranceOfAGateOf0();
        toleranceOf1000();
        toleranceWhenTheDayEnds();
        halvesOfAllTipsOfTheCart();
        paidByNumbersFromWhatIsLeft();
        paidWhenTheGateIsAbove();
        paidOfEachCart();
        gateOfADayWithoutTips();
        chargedTipsAreCounted();
        day699DoesNotEnd();
        theThirdWrongOfPaper();
        theThirdWrongOfGreen();
        wrongsOfEachBin();
        bandsOneLess();
        bandsOfTheHouseOfThatDay();
        liftAndRateStay();
        theGreatestCharge();
        claimOfAClosedDay();
        claimTheFirstTimeAlone();
        claimByAMarkOfNow();
        claimIsChargedJustThen();
        claimLeavesPaidHalves();
        weighOfAnOpenDay();
        weighOfADayThatAgreed();
        weighUnderAGate();
        weighLessTheOthers();
        weighOfOtherCartsAndDays();
        chargeIsNobodys();
        sharesAreRoundedDown();
        whatIsLeftOver();
        sharesOfGreatNumbers();
        bandsAsTheyWereBought();
        billsLessAllBillsBefore();
        billsBelow0();
        owedLessWhatWasPaid();
        payments1To1000000000();
        countOfAnotherWhat();
        countsOfAll();
        CHECKS.end("EdgesOfChargesTest");
    }

    /** Street 0, houses 0 to 2, bins 0 to 4 of the kinds 0 to 4 at house 0 with marks 10 to 14, carts 0 and 1. */
    private static BinRounds town() {
        BinRounds x = new BinRounds();
        x.street();
        x.house(0);
        x.house(0);
        x.house(0);
        for (int kind = 0; kind < 5; kind++) {
            x.bin(kind, 0, 10 + kind);
        }
        x.cart(20);
        x.cart(100000);
        return x;
    }

    /** As town(), and lift and rate of each kind are told: 100 and 1, 200 and 2, 300 and 3, 400 and 4. */
    private static BinRounds pricedTown() {
        BinRounds x = town();
        x.table(0, 100, 1);
        x.table(1, 200, 2);
        x.table(3, 300, 3);
        x.table(4, 400, 4);
        return x;
    }

    /** Weighed tips of so many halves each, of a cart that carries nothing. */
    private static void halves(BinRounds x, int cart, int mark, int... halves) {
        for (int h : halves) {
            x.tip(cart, mark, 500 * h);
        }
    }

    private static void paid(String name, BinRounds x, int first, int... due) {
        for (int i = 0; i < due.length; i++) {
            CHECKS.due(name + ", tip " + (first + i), x.look(first + i, 7), due[i]);
        }
    }

    // "for KINDS 0, 1, 3, 4 a LIFT and a RATE (0 at first)"
    private static void tablesAre0AtFirst() {
        BinRounds x = town();
        x.part(3, 1, 1, 0);
        for (int kind = 0; kind < 5; kind++) {
            x.tip(0, 10 + kind, 200000);
        }
        CHECKS.due("all are charged", x.close(), 5);
        for (int tip = 0; tip < 5; tip++) {
            CHECKS.due("charge", x.charge(tip), 0);
        }
        CHECKS.due("all charges", x.count(6), 0);
    }

    // table(): "a KIND that has none"
    private static void tablesOfFourKinds() {
        BinRounds x = town();
        x.part(3, 1, 1, 0);
        for (int kind = -1; kind <= 5; kind++) {
            int told = kind;
            if (kind == -1 || kind == 2 || kind == 5) {
                CHECKS.noNumber("kind " + kind, () -> x.table(told, 1, 1));
            } else {
                x.table(kind, 100 * (kind + 1), kind + 1);
            }
        }
        CHECKS.noNumber("a kind far below", () -> x.table(MIN, 1, 1));
        CHECKS.noNumber("a great kind", () -> x.table(MAX, 1, 1));
        long[] due = {102, 204, 0, 408, 510};
        for (int kind = 0; kind < 5; kind++) {
            halves(x, 0, 10 + kind, 2);
        }
        x.close();
        for (int kind = 0; kind < 5; kind++) {
            CHECKS.due("charge of kind " + kind, x.charge(kind), due[kind]);
        }
    }

    // table(): "a number not 0 to 100000."
    private static void liftsAndRates0To100000() {
        BinRounds x = town();
        for (int number : new int[] {-1, 100001, MIN, MAX}) {
            CHECKS.noNumber("lift " + number, () -> x.table(0, number, 0));
            CHECKS.noNumber("rate " + number, () -> x.table(0, 0, number));
        }
        x.table(0, 100000, 0);
        x.table(1, 0, 100000);
        halves(x, 0, 10, 1);
        halves(x, 0, 11, 1, 0);
        x.close();
        CHECKS.due("lift 100000, rate 0", x.charge(0), 100000);
        CHECKS.due("lift 0, rate 100000", x.charge(1), 100000);
        CHECKS.due("no halves", x.charge(2), 0);
    }

    // terms(): "the first not 0 to 100000, the second not 0 to 1000."
    private static void pricesAndTolerances() {
        BinRounds x = town();
        for (int price : new int[] {-1, 100001, MIN, MAX}) {
            CHECKS.noNumber("price " + price, () -> x.terms(price, 0));
        }
        for (int tolerance : new int[] {-1, 1001, MIN, MAX}) {
            CHECKS.noNumber("tolerance " + tolerance, () -> x.terms(7, tolerance));
        }
        x.band(0, 1);
        CHECKS.due("the price is 0 at first", x.charged(0), 0);
        x.terms(100000, 1000);
        x.band(0, 1);
        CHECKS.due("price 100000", x.charged(0), 100000);
        x.terms(0, 0);
        x.band(0, 1);
        CHECKS.due("price 0", x.charged(0), 100000);
    }

    // band(): "how many it has"; "n is not 1 to 1000."
    private static void bands1To1000() {
        BinRounds x = town();
        for (int n : new int[] {0, -1, 1001, MIN, MAX}) {
            CHECKS.noNumber("n " + n, () -> x.band(0, n));
        }
        CHECKS.due("none", x.about(0, 1), 0);
        CHECKS.due("1", x.band(0, 1), 1);
        CHECKS.due("1000 more", x.band(0, 1000), 1001);
        CHECKS.due("another house's", x.band(1, 1000), 1000);
    }

    // "1000 times the difference of S and GATE is not above TOLERANCE times GATE"
    private static void theToleranceIsNotExceeded() {
        int[][] rows = {
            // halves, gate, tolerance, agrees
            {11, 10, 99, 0}, {11, 10, 100, 1}, {11, 10, 101, 1}, {9, 10, 99, 0}, {9, 10, 100, 1}, {9, 10, 101, 1},
            {10, 10, 0, 1}, {11, 10, 0, 0}, {9, 10, 0, 0}, {110, 100, 100, 1}, {111, 100, 100, 0}, {90, 100, 100, 1},
            {89, 100, 100, 0}, {10, 9, 111, 0}, {10, 9, 112, 1}, {10, 11, 90, 0}, {10, 11, 91, 1},
        };
        for (int[] row : rows) {
            BinRounds x = town();
            halves(x, 1, 10, row[0]);
            x.gate(1, row[1]);
            x.terms(0, row[2]);
            String name = row[0] + " and " + row[1] + ", tolerance " + row[2];
            CHECKS.due(name, x.load(1, 3), row[3]);
            x.close();
            CHECKS.due(name + ", paid", x.look(0, 7), row[3] == 1 ? row[0] : Math.min(row[0], row[1]));
        }
    }

    // "TOLERANCE, 0 to 1000 (0 at first)"
    private static void theToleranceIs0AtFirst() {
        BinRounds x = town();
        halves(x, 1, 10, 200, 200, 200, 200, 201);
        x.gate(1, 1000);
        CHECKS.due("1001 and 1000", x.load(1, 3), 0);
        x.gate(1, 1001);
        CHECKS.due("1001 and 1001", x.load(1, 3), 1);
        x.gate(1, 1002);
        CHECKS.due("1001 and 1002", x.load(1, 3), 0);
    }

    // As above, of a GATE of 0; "It AGREES if there is no GATE"
    private static void toleranceOfAGateOf0() {
        BinRounds x = town();
        x.terms(0, 1000);
        CHECKS.due("no gate", x.load(1, 3), 1);
        x.gate(1, 0);
        CHECKS.due("nothing and 0", x.load(1, 3), 1);
        x.tip(1, 10, 499);
        CHECKS.due("less than a half and 0", x.load(1, 3), 1);
        x.tip(1, 10, 1);
        CHECKS.due("a half and 0", x.load(1, 3), 0);
        x.close();
        paid("gate 0", x, 0, 0, 0);
        halves(x, 1, 10, 400);
        CHECKS.due("much and no gate", x.load(1, 3), 1);
    }

    // As above, of the greatest TOLERANCE and the greatest GATE
    private static void toleranceOf1000() {
        BinRounds x = town();
        x.terms(0, 1000);
        halves(x, 1, 10, 90);
        x.gate(1, 45);
        CHECKS.due("just the double", x.load(1, 3), 1);
        x.gate(1, 44);
        CHECKS.due("above the double", x.load(1, 3), 0);
        x.gate(1, 1000000);
        CHECKS.due("90 and 1000000", x.load(1, 3), 1);
        x.gate(0, 1000000);
        CHECKS.due("nothing and 1000000", x.load(0, 3), 1);
        x.terms(0, 999);
        CHECKS.due("nothing and 1000000, tolerance 999", x.load(0, 3), 0);
        CHECKS.due("90 and 1000000, tolerance 999", x.load(1, 3), 0);
    }

    // close(): "(TOLERANCE as it is then.)"
    private static void toleranceWhenTheDayEnds() {
        BinRounds x = town();
        x.terms(0, 1000);
        halves(x, 1, 10, 4);
        x.gate(1, 3);
        x.terms(0, 0);
        x.close();
        x.terms(0, 1000);
        paid("tolerance 0 as it is closed", x, 0, 3);
        x.terms(0, 0);
        halves(x, 1, 10, 4);
        x.gate(1, 3);
        x.terms(0, 1000);
        x.close();
        x.terms(0, 0);
        paid("tolerance 1000 as it is closed", x, 1, 4);
    }

    // "Let S be the HALVES of its TIPS of that day."
    private static void halvesOfAllTipsOfTheCart() {
        BinRounds x = town();
        halves(x, 1, 10, 3);
        x.close();
        halves(x, 1, 10, 1);
        x.tip(1, 10, NONE);
        halves(x, 1, 99, 4);
        x.mark(1, 10);
        halves(x, 1, 10, 5);
        halves(x, 0, 10, 50);
        x.gate(1, 11);
        CHECKS.due("1, 1 found out, 4 unknown, 5 double", x.load(1, 3), 1);
        x.gate(1, 12);
        CHECKS.due("not 12", x.load(1, 3), 0);
        x.weigh(2, 1000);
        CHECKS.due("12 when it is weighed", x.load(1, 3), 1);
    }

    // "at most what is left of its GATE, which is less by them"; "the TIPS of the day are done by their numbers"
    private static void paidByNumbersFromWhatIsLeft() {
        int[][] due = {
            {0, 0, 0, 0}, {1, 0, 0, 0}, {2, 0, 0, 0}, {3, 0, 0, 0}, {3, 0, 1, 0}, {3, 0, 2, 0}, {3, 0, 2, 1},
            {3, 0, 2, 2}, {3, 0, 2, 3}, {3, 0, 2, 4},
        };
        for (int gate = 0; gate < due.length; gate++) {
            BinRounds x = pricedTown();
            halves(x, 1, 10, 3, 0);
            halves(x, 1, 99, 2);
            halves(x, 1, 10, 4);
            x.gate(1, gate);
            x.close();
            paid("gate " + gate, x, 0, due[gate]);
            CHECKS.due("halves stay", x.look(3, 3), 4);
            CHECKS.due("charged by what is paid", x.charge(3), 100 + due[gate][3]);
        }
    }

    // As above: the GATE is above the HALVES and does not AGREE, or just so
    private static void paidWhenTheGateIsAbove() {
        BinRounds x = town();
        halves(x, 1, 10, 3, 4);
        x.gate(1, 8);
        x.close();
        paid("8 for 7", x, 0, 3, 4);
        halves(x, 1, 10, 3, 4);
        x.gate(1, 1000000);
        x.close();
        paid("1000000 for 7", x, 2, 3, 4);
    }

    // "on a CART's day": each CART has its own GATE, and a day without one is paid as it is
    private static void paidOfEachCart() {
        BinRounds x = town();
        x.cart(0);
        halves(x, 0, 10, 4);
        halves(x, 1, 10, 4);
        halves(x, 2, 10, 4);
        halves(x, 1, 10, 4);
        halves(x, 0, 10, 4);
        x.gate(0, 5);
        x.gate(1, 6);
        x.close();
        paid("gates 5 and 6 and none", x, 0, 4, 4, 4, 2, 1);
    }

    // As above: a GATE of a day on which the CART has no TIPS leaves nothing to the next day
    private static void gateOfADayWithoutTips() {
        BinRounds x = town();
        x.gate(1, 2);
        CHECKS.due("nothing and 2 do not agree", x.load(1, 3), 0);
        CHECKS.due("nothing is charged", x.close(), 0);
        halves(x, 1, 10, 9);
        CHECKS.due("the next day agrees", x.load(1, 3), 1);
        x.close();
        paid("the next day", x, 0, 9);
    }

    // "Then a TIP with a BIN is CHARGED." "how many of its TIPS were CHARGED."
    private static void chargedTipsAreCounted() {
        BinRounds x = pricedTown();
        CHECKS.due("no tips", x.close(), 0);
        for (int kind = 0; kind < 5; kind++) {
            halves(x, 0, 10 + kind, 1);
        }
        halves(x, 0, 99, 1);
        x.mark(1, 10);
        halves(x, 0, 10, 1);
        CHECKS.due("none while it is open", x.look(0, 8), 0);
        CHECKS.due("five with a bin", x.close(), 5);
        for (int tip = 0; tip < 7; tip++) {
            CHECKS.due("charged " + tip, x.look(tip, 8), tip < 5 ? 1 : 0);
            CHECKS.due("paid " + tip, x.look(tip, 7), 1);
        }
        CHECKS.due("nobody's is charged, its charge is 0", x.charge(3), 0);
        CHECKS.due("unknown", x.charge(5), 0);
        CHECKS.due("double", x.charge(6), 0);
        CHECKS.due("those of another day are none", x.close(), 0);
        x.claim(6, 0);
        CHECKS.due("nor is a claimed one", x.close(), 0);
    }

    // close(): "it is day 699." Behind the 512th call.
    private static void day699DoesNotEnd() {
        BinRounds x = pricedTown();
        for (int i = 0; i < 698; i++) {
            x.close();
        }
        halves(x, 0, 10, 1);
        CHECKS.due("day 698 ends", x.close(), 1);
        halves(x, 0, 10, 1);
        CHECKS.noRoom("day 699", x::close);
        CHECKS.noRoom("told twice", x::close);
        CHECKS.due("it is open", x.count(0), 699);
        CHECKS.due("its tip is not charged", x.look(1, 8), 0);
    }

    // "a PAPER BIN: nothing ... but if it is WRONG and that was the BIN's third or a later one: by KIND 0's"
    private static void theThirdWrongOfPaper() {
        BinRounds x = pricedTown();
        boolean[] wrong = {true, false, true, false, true, false, true};
        long[] due = {0, 0, 0, 0, 102, 0, 102};
        for (int i = 0; i < due.length; i++) {
            halves(x, 0, 12, 2);
            if (wrong[i]) {
                x.wrong(i);
            }
            x.close();
            CHECKS.due("paper " + i, x.charge(i), due[i]);
        }
        CHECKS.due("wrongs", x.state(2, 4), 4);
    }

    // "GREEN: by its own, or so by KIND 0's."
    private static void theThirdWrongOfGreen() {
        BinRounds x = pricedTown();
        for (int i = 0; i < 6; i++) {
            halves(x, 0, 11, 2);
        }
        for (int i = 5; i > 0; i--) {
            x.wrong(i);
        }
        x.wrong(3);
        x.close();
        long[] due = {204, 204, 204, 102, 102, 102};
        for (int i = 0; i < due.length; i++) {
            CHECKS.due("green " + i, x.charge(i), due[i]);
        }
        CHECKS.due("wrongs", x.state(1, 4), 5);
        halves(x, 0, 11, 2);
        x.close();
        CHECKS.due("one that is not wrong behind them", x.charge(6), 204);
    }

    // "its BIN has one WRONG more": each BIN has its own
    private static void wrongsOfEachBin() {
        BinRounds x = pricedTown();
        x.bin(1, 0, 21);
        for (int i = 0; i < 3; i++) {
            halves(x, 0, 11, 2);
            halves(x, 0, 21, 2);
            x.wrong(2 * i);
            if (i > 0) {
                x.wrong(2 * i + 1);
            }
        }
        x.close();
        CHECKS.due("its third", x.charge(4), 102);
        CHECKS.due("the other's second", x.charge(5), 204);
        CHECKS.due("wrongs", x.state(1, 4), 3);
        CHECKS.due("wrongs of the other", x.state(5, 4), 2);
    }

    // "SACK: if the HOUSE ... has a BAND that is one less, LIFT and RATE are 0; else by KIND 4's."
    private static void bandsOneLess() {
        BinRounds x = pricedTown();
        x.band(0, 2);
        halves(x, 0, 14, 1, 1, 1);
        halves(x, 0, 10, 1);
        CHECKS.due("while it is open", x.about(0, 1), 2);
        x.close();
        long[] due = {0, 0, 404, 101};
        for (int i = 0; i < due.length; i++) {
            CHECKS.due("tip " + i, x.charge(i), due[i]);
            CHECKS.due("charged", x.look(i, 8), 1);
        }
        CHECKS.due("none is left", x.about(0, 1), 0);
        halves(x, 0, 14, 1);
        x.close();
        CHECKS.due("and none below 0", x.about(0, 1), 0);
        CHECKS.due("told anew", x.band(0, 1), 1);
        CHECKS.due("what was charged stands", x.charge(4), 404);
    }

    // "the HOUSE that had it on the TIP's day"
    private static void bandsOfTheHouseOfThatDay() {
        BinRounds x = pricedTown();
        x.mark(0, 14);
        halves(x, 0, 14, 1, 1);
        x.close();
        x.bin(4, 1, 14);
        x.move(4, 1, 1);
        x.band(0, 1);
        x.band(1, 3);
        CHECKS.due("house 0's band", x.claim(0, 4), 0);
        CHECKS.due("is one less", x.about(0, 1), 0);
        CHECKS.due("house 0 has none", x.claim(1, 4), 404);
        CHECKS.due("house 1's are all there", x.about(1, 1), 3);
        x.mark(0, 15);
        x.mark(5, 14);
        halves(x, 0, 14, 1);
        x.close();
        x.mark(4, 15);
        CHECKS.due("double now, and not charged", x.look(2, 8), 0);
        x.bin(4, 1, 14);
        CHECKS.due("a sack that nobody had that day", x.claim(2, 6), 0);
        CHECKS.due("takes no band", x.about(1, 1), 3);
    }

    // "LIFT and RATE stay with the TIP."
    private static void liftAndRateStay() {
        BinRounds x = pricedTown();
        halves(x, 0, 10, 4);
        x.tip(0, 10, NONE);
        x.table(0, 10, 5);
        x.close();
        x.table(0, 90000, 90000);
        CHECKS.due("as they are when the day ends", x.charge(0), 30);
        x.weigh(1, 3000);
        CHECKS.due("and when it is weighed later", x.charge(1), 40);
        CHECKS.due("the house's sum", x.charged(0), 70);
    }

    // "CHARGE is LIFT and RATE times PAID HALVES.", of the greatest numbers
    private static void theGreatestCharge() {
        BinRounds x = town();
        x.table(0, 100000, 100000);
        for (int i = 0; i < 60; i++) {
            halves(x, 0, 10, 400);
        }
        x.close();
        CHECKS.due("one", x.charge(59), 40100000L);
        CHECKS.due("its share", x.share(59, 0), 40100000L);
        CHECKS.due("all of the house", x.charged(0), 2406000000L);
        CHECKS.due("all charges", x.count(6), 2406000000L);
        CHECKS.due("all that is charged", x.count(8), 2406000000L);
        CHECKS.due("the bill", x.bill(0), 2406000000L);
        CHECKS.due("owed", x.pay(0, 1), 2405999999L);
    }

    // claim(): "a DOUBLE TIP of a closed day"; "it is not DOUBLE, or not any more, or its day is OPEN"
    private static void claimOfAClosedDay() {
        BinRounds x = pricedTown();
        x.mark(1, 10);
        halves(x, 0, 10, 2);
        halves(x, 0, 99, 2);
        halves(x, 0, 12, 2);
        CHECKS.noSuch("its day is open", () -> x.claim(0, 0));
        x.close();
        x.mark(2, 99);
        CHECKS.due("closed just now", x.claim(0, 1), 204);
        CHECKS.noSuch("unknown", () -> x.claim(1, 2));
        CHECKS.noSuch("it has a bin", () -> x.claim(2, 2));
        CHECKS.due("its charge is the house's", x.charged(0), 204);
    }

    // claim(): "(the first time alone)"
    private static void claimTheFirstTimeAlone() {
        BinRounds x = pricedTown();
        x.mark(1, 10);
        halves(x, 0, 10, 2);
        x.close();
        x.claim(0, 0);
        CHECKS.noSuch("told twice", () -> x.claim(0, 0));
        CHECKS.noSuch("told of another bin", () -> x.claim(0, 1));
        CHECKS.due("its bin", x.look(0, 4), 0);
        CHECKS.due("charged once", x.charged(0), 102);
    }

    // claim(): "the BIN does not bear its MARK now."
    private static void claimByAMarkOfNow() {
        BinRounds x = pricedTown();
        x.mark(1, 10);
        halves(x, 0, 10, 2, 2);
        x.close();
        CHECKS.noNumber("another mark", () -> x.claim(0, 2));
        x.lost(0);
        CHECKS.noNumber("it bore it then", () -> x.claim(0, 0));
        x.mark(2, 10);
        CHECKS.due("it bears it now", x.claim(0, 2), 0);
        x.lost(2);
        CHECKS.due("the one that is left", x.claim(1, 1), 204);
    }

    // "To be CHARGED, by what is told just then": of a claimed TIP too
    private static void claimIsChargedJustThen() {
        BinRounds x = pricedTown();
        x.mark(1, 10);
        halves(x, 0, 10, 2, 2);
        x.close();
        CHECKS.due("not charged", x.look(0, 8), 0);
        x.table(0, 1000, 0);
        CHECKS.due("the table of now", x.claim(0, 0), 1000);
        CHECKS.due("charged", x.look(0, 8), 1);
        x.table(0, 0, 0);
        CHECKS.due("stays", x.charge(0), 1000);
        for (int i = 2; i < 5; i++) {
            halves(x, 0, 12, 2);
            x.wrong(i);
        }
        x.close();
        x.mark(2, 10);
        CHECKS.due("not wrong, of a bin that has three", x.claim(1, 2), 0);
        CHECKS.due("and has no more by it", x.state(2, 4), 3);
    }

    // claim(): "(its PAID HALVES are what they are)"
    private static void claimLeavesPaidHalves() {
        BinRounds x = pricedTown();
        x.mark(1, 10);
        halves(x, 1, 10, 4, 4);
        x.tip(1, 10, NONE);
        x.gate(1, 5);
        x.close();
        CHECKS.due("all of 4", x.claim(0, 0), 104);
        CHECKS.due("1 is left", x.claim(1, 0), 101);
        CHECKS.due("none of 0", x.claim(2, 0), 100);
        paid("as they were", x, 0, 4, 1, 0);
    }

    // weigh(): "(its day may be OPEN or closed)"
    private static void weighOfAnOpenDay() {
        BinRounds x = pricedTown();
        x.tip(1, 10, NONE);
        x.weigh(0, 4000);
        CHECKS.due("nothing is paid yet", x.look(0, 7), 0);
        CHECKS.due("nor charged", x.charge(0), 0);
        x.gate(1, 3);
        x.close();
        paid("under a gate", x, 0, 3);
        CHECKS.due("then charged", x.charge(0), 103);
    }

    // weigh(): "its PAID HALVES are the new HALVES"
    private static void weighOfADayThatAgreed() {
        BinRounds x = pricedTown();
        halves(x, 1, 10, 4);
        x.tip(1, 10, NONE);
        x.gate(1, 8);
        x.tip(0, 10, NONE);
        x.close();
        x.weigh(1, 200000);
        paid("a gate that agreed is not asked", x, 1, 400);
        CHECKS.due("its charge", x.charge(1), 500);
        x.weigh(2, 499);
        paid("fewer, no gate", x, 2, 0);
        CHECKS.due("its charge", x.charge(2), 100);
        CHECKS.due("the house's sum", x.charged(0), 104 + 500 + 100);
    }

    // weigh(): "on a CART's day that did not AGREE when it was closed at most its GATE less the PAID HALVES of the
    // CART's other TIPS of that day."
    private static void weighUnderAGate() {
        int[] due = {0, 1, 2, 3, 3, 3};
        for (int halves = 0; halves < due.length; halves++) {
            BinRounds x = pricedTown();
            halves(x, 1, 10, 2);
            x.tip(1, 10, NONE);
            x.gate(1, 5);
            x.close();
            paid("found out", x, 0, 2, 2);
            x.terms(0, 1000);
            CHECKS.due("weigh()", x.weigh(1, 500 * halves + 499), halves);
            paid("weighed " + halves, x, 0, 2, due[halves]);
            CHECKS.due("its charge", x.charge(1), 100 + due[halves]);
            CHECKS.due("the house's sum", x.charged(0), 202 + due[halves]);
        }
    }

    // As above: nothing is left, and what one leaves the next one has
    private static void weighLessTheOthers() {
        BinRounds x = pricedTown();
        halves(x, 1, 10, 4);
        x.tip(1, 10, NONE);
        x.tip(1, 10, NONE);
        halves(x, 1, 99, 1);
        x.gate(1, 8);
        x.close();
        paid("as the day ends", x, 0, 4, 4, 0, 0);
        x.weigh(2, 5000);
        paid("nothing is left", x, 0, 4, 4, 0, 0);
        x.weigh(1, 500);
        paid("it takes less", x, 0, 4, 1, 0, 0);
        BinRounds y = pricedTown();
        halves(y, 1, 10, 4);
        y.tip(1, 10, NONE);
        y.tip(1, 10, NONE);
        halves(y, 1, 99, 1);
        y.gate(1, 8);
        y.close();
        y.weigh(1, 500);
        y.weigh(2, 5000);
        paid("what the other left", y, 0, 4, 1, 3, 0);
        BinRounds z = pricedTown();
        halves(z, 1, 99, 4);
        z.tip(1, 99, NONE);
        z.gate(1, 6);
        z.close();
        z.weigh(1, 5000);
        paid("unknown ones, too", z, 0, 4, 2);
    }

    // As above: "the CART's other TIPS of that day", no other CART's and no other day's
    private static void weighOfOtherCartsAndDays() {
        BinRounds x = pricedTown();
        halves(x, 1, 10, 4);
        x.close();
        x.tip(1, 10, NONE);
        halves(x, 0, 10, 4);
        x.gate(1, 7);
        x.gate(0, 1);
        x.close();
        halves(x, 1, 10, 4);
        x.gate(1, 1);
        x.close();
        x.weigh(1, 5000);
        paid("the gate of its own cart and day", x, 0, 4, 7, 1, 1);
        x.tip(1, 10, NONE);
        x.close();
        x.weigh(4, 5000);
        paid("a day without a gate", x, 4, 10);
    }

    // "No weights, or no HOUSE had the BIN: it is nobody's, CHARGE is 0."
    private static void chargeIsNobodys() {
        BinRounds x = pricedTown();
        x.mark(0, 13);
        halves(x, 0, 13, 2);
        x.lost(0);
        halves(x, 0, 13, 2);
        x.part(3, 1, 0, 0);
        x.part(3, 2, 7, 1);
        x.close();
        CHECKS.due("weights are 0", x.charge(1), 0);
        CHECKS.due("not the house's that has it", x.share(1, 0), 0);
        CHECKS.due("nor the part's of a later day", x.share(1, 2), 0);
        CHECKS.due("charged all the same", x.look(1, 8), 1);
        x.bin(0, 1, 13);
        CHECKS.due("no house had the bin", x.claim(0, 5), 0);
        CHECKS.due("its charge", x.charge(0), 0);
        CHECKS.due("charged all the same", x.look(0, 8), 1);
        CHECKS.due("all charges", x.count(6), 0);
        CHECKS.due("all that is charged", x.count(8), 0);
        x.lost(5);
        halves(x, 0, 13, 2);
        x.close();
        CHECKS.due("the next day is the part's", x.share(2, 2), 306);
    }

    // "by their numbers each the CHARGE times its weight by all weights, rounded down"
    private static void sharesAreRoundedDown() {
        BinRounds x = town();
        x.part(3, 2, 1000, 0);
        x.part(3, 0, 999, 0);
        x.part(3, 1, 1, 0);
        x.table(3, 1999, 0);
        halves(x, 0, 13, 0);
        x.close();
        CHECKS.due("998.5, and one that is left over", x.share(0, 0), 999);
        CHECKS.due("0.9995, and one that is left over", x.share(0, 1), 1);
        CHECKS.due("999.5", x.share(0, 2), 999);
        CHECKS.due("all", x.charge(0), 1999);
    }

    // "what is left over: one each of the first ones whose weight is above 0."
    private static void whatIsLeftOver() {
        long[][] due = {
            {0, 0, 0, 0, 0}, {0, 1, 0, 0, 0}, {0, 1, 0, 1, 0}, {0, 1, 0, 1, 1}, {0, 2, 0, 1, 1}, {0, 2, 0, 2, 1}, {0, 2, 0, 2, 2},
        };
        for (int lift = 0; lift < due.length; lift++) {
            BinRounds x = town();
            x.house(0);
            x.house(0);
            x.part(3, 4, 5, 0);
            x.part(3, 3, 5, 0);
            x.part(3, 1, 5, 0);
            x.part(3, 0, 0, 0);
            x.table(3, lift, 0);
            halves(x, 0, 13, 0);
            x.close();
            for (int house = 0; house < 5; house++) {
                CHECKS.due("of " + lift + ", house " + house, x.share(0, house), due[lift][house]);
                CHECKS.due("its sum", x.charged(house), due[lift][house]);
            }
        }
    }

    // As above, of the greatest numbers
    private static void sharesOfGreatNumbers() {
        BinRounds x = town();
        x.table(3, 100000, 100000);
        for (int house = 0; house < 3; house++) {
            x.part(3, house, 1000, 0);
        }
        halves(x, 0, 13, 400);
        x.close();
        CHECKS.due("house 0", x.share(0, 0), 13366667);
        CHECKS.due("house 1", x.share(0, 1), 13366667);
        CHECKS.due("house 2", x.share(0, 2), 13366666);
        CHECKS.due("all", x.charge(0), 40100000);
    }

    // "PRICES of its BANDS as they were bought"
    private static void bandsAsTheyWereBought() {
        BinRounds x = pricedTown();
        x.terms(100000, 0);
        for (int i = 0; i < 22; i++) {
            x.band(0, 1000);
        }
        x.terms(1, 0);
        x.band(0, 1);
        CHECKS.due("more than an int holds", x.charged(0), 2200000001L);
        CHECKS.due("all that bands cost", x.count(7), 2200000001L);
        CHECKS.due("all that is charged", x.count(8), 2200000001L);
        CHECKS.due("no charge of a tip", x.count(6), 0);
        halves(x, 0, 14, 1);
        x.close();
        CHECKS.due("a band that is used up cost the same", x.charged(0), 2200000001L);
    }

    // "BILL: what is CHARGED to it less all BILLS before"
    private static void billsLessAllBillsBefore() {
        BinRounds x = pricedTown();
        CHECKS.due("nothing", x.bill(0), 0);
        halves(x, 0, 10, 1);
        CHECKS.due("an open day", x.bill(0), 0);
        x.close();
        CHECKS.due("what is charged", x.bill(0), 101);
        CHECKS.due("told twice", x.bill(0), 0);
        x.pay(0, 50);
        CHECKS.due("what was paid is not asked", x.bill(0), 0);
        halves(x, 0, 10, 2, 3);
        x.close();
        CHECKS.due("what is new", x.bill(0), 205);
        CHECKS.due("charged", x.charged(0), 306);
        CHECKS.due("another house", x.bill(1), 0);
    }

    // "(may be below 0)"
    private static void billsBelow0() {
        BinRounds x = pricedTown();
        halves(x, 0, 10, 9);
        x.tip(0, 10, NONE);
        x.close();
        CHECKS.due("found out", x.bill(0), 218);
        x.weigh(1, 0);
        CHECKS.due("weighed: 9 less", x.bill(0), -9);
        CHECKS.due("then nothing", x.bill(0), 0);
        CHECKS.due("owed", x.pay(0, 209), 0);
        CHECKS.due("charged", x.charged(0), 209);
    }

    // "OWED: all BILLS less what was paid."
    private static void owedLessWhatWasPaid() {
        BinRounds x = pricedTown();
        halves(x, 0, 10, 1);
        x.close();
        CHECKS.due("no bill yet", x.pay(0, 1), -1);
        x.bill(0);
        CHECKS.due("99", x.pay(0, 1), 99);
        CHECKS.due("nothing", x.pay(0, 99), 0);
        CHECKS.due("below 0", x.pay(0, 1), -1);
        halves(x, 0, 10, 1);
        x.close();
        CHECKS.due("charged, no bill", x.pay(0, 1), -2);
        x.bill(0);
        CHECKS.due("both bills", x.pay(0, 1), 98);
        CHECKS.due("another house", x.pay(2, 1), -1);
        CHECKS.due("all that was paid", x.count(9), 105);
    }

    // pay(): "not 1 to 1000000000."
    private static void payments1To1000000000() {
        BinRounds x = town();
        for (long sum : new long[] {0, -1, 1000000001L, (1L << 32) + 1, Long.MIN_VALUE, Long.MAX_VALUE}) {
            CHECKS.noNumber("sum " + sum, () -> x.pay(0, sum));
        }
        CHECKS.due("nothing was paid", x.count(9), 0);
        CHECKS.due("1", x.pay(0, 1), -1);
        for (int i = 1; i <= 10; i++) {
            CHECKS.due("1000000000", x.pay(0, 1000000000L), -1 - i * 1000000000L);
        }
        CHECKS.due("all that was paid", x.count(9), 10000000001L);
    }

    // "NONE for another what."
    private static void countOfAnotherWhat() {
        BinRounds x = pricedTown();
        for (int what : new int[] {-2, -1, 10, 11, MIN, MAX}) {
            CHECKS.due("count(" + what + ")", x.count(what), NONE);
        }
    }

    // "6 all CHARGES of TIPS, 7 all that BANDS cost, 8 all that is CHARGED to HOUSES, 9 all that was paid."
    private static void countsOfAll() {
        BinRounds x = pricedTown();
        x.terms(30, 0);
        x.part(3, 1, 1, 0);
        x.part(3, 2, 1, 0);
        halves(x, 0, 10, 2);
        halves(x, 0, 13, 1);
        halves(x, 0, 99, 1);
        x.band(0, 3);
        x.band(2, 1);
        x.pay(1, 11);
        CHECKS.due("open: charges", x.count(6), 0);
        CHECKS.due("open: bands", x.count(7), 120);
        CHECKS.due("open: charged", x.count(8), 120);
        x.close();
        long[] due = {1, 1, 3, 5, 2, 3, 405, 120, 525, 11};
        for (int what = 0; what <= 9; what++) {
            CHECKS.due("count(" + what + ")", x.count(what), due[what]);
        }
        CHECKS.due("the houses' sums are all", x.charged(0) + x.charged(1) + x.charged(2), 525);
        CHECKS.due("the first one has what is left over", x.charged(1), 152);
    }
}
