/** Promises 13 to 15, 19 to 21, 23 to 27 and 34: tables, bands, charges, claims, shares, bills, counts. */
final class ChargesTest {
    private static final Checks CHECKS = new Checks();
    private static final int NONE = BinRounds.NONE;

    public static void main(String[] args) {
        promise13Table();
        promise13FromNowOn();
        promise14Terms();
        promise15Band();
        promise19Close();
        promise19LastDay();
        promise19Gate();
        promise19GateOfEachCart();
        promise19PaperAndGreen();
        promise19Sack();
        promise20Claim();
        promise20ClaimedKinds();
        promise21WeighOfAClosedDay();
        promise21WeighUnderAGate();
        promise21WeighWithoutBin();
        promise23Charge();
        promise24Share();
        promise24NobodysShare();
        promise25Charged();
        promise26Bill();
        promise27Pay();
        promise34Count();
        CHECKS.end("ChargesTest");
    }

    /** Street 0, houses 0 to 2, bins 0 to 4 of the kinds 0 to 4 at house 0 with marks 10 to 14, carts 0 and 1. */
    private static BinRounds town() {
        BinRounds x = new BinRounds();
        x.street();
        x.house(0);
        x.house(0);
        x.house(0);
        for (int kind = 0; kind < 5; kind++) {
            x.bin(kind, 0, 10 + kind);
        }
        x.cart(20);
        x.cart(100000);
        return x;
    }

    /** As town(), and lift and rate of each kind are told: 100 and 1, 200 and 2, 300 and 3, 400 and 4. */
    private static BinRounds pricedTown() {
        BinRounds x = town();
        x.table(0, 100, 1);
        x.table(1, 200, 2);
        x.table(3, 300, 3);
        x.table(4, 400, 4);
        return x;
    }

    private static void promise13Table() {
        BinRounds x = town();
        int[] withTable = {0, 1, 3, 4};
        for (int kind : withTable) {
            x.table(kind, 100000, 100000);
            x.table(kind, 0, 0);
        }
        CHECKS.noNumber("kind 2", () -> x.table(2, 1, 1));
        CHECKS.noNumber("kind -1", () -> x.table(-1, 1, 1));
        CHECKS.noNumber("kind 5", () -> x.table(5, 1, 1));
        CHECKS.noNumber("lift -1", () -> x.table(0, -1, 1));
        CHECKS.noNumber("lift 100001", () -> x.table(0, 100001, 1));
        CHECKS.noNumber("rate -1", () -> x.table(0, 1, -1));
        CHECKS.noNumber("rate 100001", () -> x.table(0, 1, 100001));
        x.tip(0, 10, 500);
        x.close();
        CHECKS.due("nothing has changed", x.charge(0), 0);
    }

    private static void promise13FromNowOn() {
        BinRounds x = town();
        x.tip(0, 10, 1000);
        x.table(0, 7, 3);
        x.table(1, 9, 4);
        x.tip(0, 11, 1000);
        x.close();
        CHECKS.due("the table as the day is closed", x.charge(0), 13);
        CHECKS.due("kind 1's own table", x.charge(1), 17);
        x.table(0, 1000, 1000);
        CHECKS.due("it stays with the tip", x.charge(0), 13);
        x.tip(0, 10, 200000);
        x.table(0, 100000, 100000);
        x.close();
        CHECKS.due("the greatest numbers", x.charge(2), 40100000);
    }

    private static void promise14Terms() {
        BinRounds x = town();
        CHECKS.noNumber("price -1", () -> x.terms(-1, 0));
        CHECKS.noNumber("price 100001", () -> x.terms(100001, 0));
        CHECKS.noNumber("tolerance -1", () -> x.terms(5, -1));
        CHECKS.noNumber("tolerance 1001", () -> x.terms(5, 1001));
        x.band(0, 1);
        CHECKS.due("no price was told", x.charged(0), 0);
        x.terms(100000, 1000);
        x.band(0, 1);
        CHECKS.due("the greatest price", x.charged(0), 100000);
        x.terms(0, 0);
        x.band(0, 1000);
        CHECKS.due("from now on alone", x.charged(0), 100000);
    }

    private static void promise15Band() {
        BinRounds x = town();
        x.terms(30, 0);
        CHECKS.noIndex("house 3, n 0", () -> x.band(3, 0));
        CHECKS.noIndex("house -1", () -> x.band(-1, 1));
        CHECKS.noNumber("n 0", () -> x.band(0, 0));
        CHECKS.noNumber("n 1001", () -> x.band(0, 1001));
        CHECKS.due("one", x.band(0, 1), 1);
        CHECKS.due("a thousand more", x.band(0, 1000), 1001);
        CHECKS.due("another house's", x.band(1, 2), 2);
        CHECKS.due("charged to it", x.charged(0), 30030);
        CHECKS.due("charged to the other", x.charged(1), 60);
        x.terms(100000, 0);
        for (int i = 0; i < 30; i++) {
            x.band(2, 1000);
        }
        CHECKS.due("more than an int holds", x.charged(2), 3000000000L);
    }

    private static void promise19Close() {
        BinRounds x = pricedTown();
        CHECKS.due("no tips", x.close(), 0);
        CHECKS.due("the next day", x.count(0), 1);
        x.tip(0, 10, 1000);
        x.tip(1, 13, 500);
        x.tip(0, 99, 500);
        x.mark(1, 10);
        x.tip(0, 10, 500);
        CHECKS.due("no charge while it is open", x.charge(0), 0);
        CHECKS.due("not charged yet", x.look(0, 8), 0);
        CHECKS.due("two have a bin", x.close(), 2);
        CHECKS.due("charge", x.charge(0), 102);
        CHECKS.due("paid halves", x.look(0, 7), 2);
        CHECKS.due("nobody's charge is one", x.look(1, 8), 1);
        CHECKS.due("an unknown one", x.look(2, 8), 0);
        CHECKS.due("its paid halves", x.look(2, 7), 1);
        CHECKS.due("a double one", x.look(3, 8), 0);
        CHECKS.due("its paid halves", x.look(3, 7), 1);
        CHECKS.due("tips of an earlier day do not count", x.close(), 0);
        CHECKS.due("nor are they charged again", x.charged(0), 102);
    }

    private static void promise19LastDay() {
        BinRounds x = pricedTown();
        for (int i = 0; i < 699; i++) {
            x.close();
        }
        CHECKS.due("day 699", x.count(0), 699);
        x.tip(0, 10, 500);
        CHECKS.noRoom("day 699 does not end", x::close);
        CHECKS.due("day 699 still", x.count(0), 699);
        CHECKS.due("not charged", x.look(0, 8), 0);
        CHECKS.due("the last day is a holiday", x.holiday(699, true), true);
        CHECKS.due("a move on the last day", x.move(0, 1, 699), 2);
    }

    private static void promise19Gate() {
        BinRounds x = pricedTown();
        x.terms(0, 100);
        x.tip(0, 10, 3000);
        x.tip(0, 99, 1000);
        x.tip(0, 10, 2000);
        x.gate(0, 9);
        x.close();
        CHECKS.due("12 and 9 do not agree", x.look(0, 7), 6);
        CHECKS.due("unknown ones take of it", x.look(1, 7), 2);
        CHECKS.due("what is left", x.look(2, 7), 1);
        CHECKS.due("charged by it", x.charge(2), 101);
        CHECKS.due("halves stay", x.look(2, 3), 4);
        x.tip(0, 10, 3000);
        x.tip(0, 10, 2000);
        x.gate(0, 20);
        x.close();
        CHECKS.due("10 and 20 do not agree", x.look(3, 7), 6);
        CHECKS.due("but all is paid", x.look(4, 7), 4);
        x.tip(0, 10, 5000);
        x.tip(0, 10, 500);
        x.gate(0, 10);
        x.close();
        CHECKS.due("11 and 10 agree", x.look(5, 7), 10);
        CHECKS.due("so all is paid", x.look(6, 7), 1);
        x.tip(0, 10, 500);
        x.gate(0, 0);
        x.close();
        CHECKS.due("gate 0", x.look(7, 7), 0);
        CHECKS.due("the lift is due", x.charge(7), 100);
    }

    private static void promise19GateOfEachCart() {
        BinRounds x = pricedTown();
        x.tip(0, 10, 1000);
        x.tip(1, 10, 1000);
        x.tip(0, 10, 1000);
        x.tip(1, 10, 1000);
        x.gate(0, 3);
        x.gate(1, 1);
        x.gate(1, 2);
        x.terms(0, 400);
        CHECKS.due("agrees as it is told", x.load(0, 3), 1);
        x.terms(0, 300);
        x.close();
        CHECKS.due("cart 0's first", x.look(0, 7), 2);
        CHECKS.due("cart 1's first", x.look(1, 7), 2);
        CHECKS.due("cart 0's second", x.look(2, 7), 1);
        CHECKS.due("cart 1's second", x.look(3, 7), 0);
        x.tip(0, 10, 1000);
        x.close();
        CHECKS.due("no gate the day after", x.look(4, 7), 2);
    }

    private static void promise19PaperAndGreen() {
        BinRounds x = pricedTown();
        x.bin(2, 1, 20);
        long[] paper = {0, 0, 102, 0, 102};
        long[] green = {204, 204, 102, 204, 102};
        for (int i = 0; i < 5; i++) {
            x.tip(0, 12, 1000);
            x.tip(0, 11, 1000);
            x.tip(0, 20, 1000);
            if (i != 3) {
                x.wrong(3 * i);
                x.wrong(3 * i + 1);
            }
            x.close();
            CHECKS.due("paper " + i, x.charge(3 * i), paper[i]);
            CHECKS.due("green " + i, x.charge(3 * i + 1), green[i]);
            CHECKS.due("another bin's wrongs", x.charge(3 * i + 2), 0);
        }
        CHECKS.due("wrongs of paper", x.state(2, 4), 4);
        CHECKS.due("wrongs of green", x.state(1, 4), 4);
        CHECKS.due("wrongs of the other", x.state(5, 4), 0);
        for (int i = 15; i < 18; i++) {
            x.tip(0, 20, 1000);
            x.wrong(i);
        }
        x.close();
        CHECKS.due("the second of a day", x.charge(16), 0);
        CHECKS.due("the third of a day", x.charge(17), 102);
    }

    private static void promise19Sack() {
        BinRounds x = pricedTown();
        x.move(4, 1, 1);
        x.band(0, 2);
        x.band(1, 1);
        x.tip(0, 14, 1000);
        x.tip(0, 10, 1000);
        CHECKS.due("not taken while it is open", x.about(0, 1), 2);
        x.close();
        CHECKS.due("a band's sack is free", x.charge(0), 0);
        CHECKS.due("and charged", x.look(0, 8), 1);
        CHECKS.due("one less", x.about(0, 1), 1);
        CHECKS.due("others take none", x.charge(1), 102);
        x.tip(0, 14, 1000);
        x.tip(0, 14, 1000);
        x.close();
        CHECKS.due("of the house that has it now", x.charge(2), 0);
        CHECKS.due("no band is left", x.charge(3), 408);
        CHECKS.due("house 1 has none", x.about(1, 1), 0);
        CHECKS.due("house 0 keeps its own", x.about(0, 1), 1);
        CHECKS.due("house 1's sum", x.charged(1), 408);
    }

    private static void promise20Claim() {
        BinRounds x = pricedTown();
        x.mark(3, 10);
        x.tip(0, 10, 1000);
        x.tip(0, 99, 1000);
        x.tip(0, 11, 1000);
        CHECKS.noIndex("tip 3", () -> x.claim(3, 0));
        CHECKS.noIndex("tip -1", () -> x.claim(-1, 0));
        CHECKS.noIndex("bin 5, an open day", () -> x.claim(0, 5));
        CHECKS.noIndex("bin -1", () -> x.claim(0, -1));
        CHECKS.noSuch("its day is open", () -> x.claim(0, 0));
        x.close();
        CHECKS.noSuch("it is unknown", () -> x.claim(1, 0));
        CHECKS.noSuch("it has a bin", () -> x.claim(2, 1));
        CHECKS.noSuch("it has a bin, another mark", () -> x.claim(2, 0));
        CHECKS.noNumber("the bin bears another mark", () -> x.claim(0, 1));
        x.lost(0);
        CHECKS.noNumber("the bin bears it no more", () -> x.claim(0, 0));
        CHECKS.due("still double", x.look(0, 5), 2);
        x.mark(0, 10);
        CHECKS.due("its charge", x.claim(0, 0), 102);
        CHECKS.due("its bin", x.look(0, 4), 0);
        CHECKS.due("claimed", x.look(0, 5), 3);
        CHECKS.due("charged", x.look(0, 8), 1);
        CHECKS.due("its share", x.share(0, 0), 102);
        CHECKS.due("the house's sum", x.charged(0), 102 + 204);
        CHECKS.noSuch("the second time", () -> x.claim(0, 0));
        CHECKS.noSuch("the second time, another bin", () -> x.claim(0, 3));
    }

    private static void promise20ClaimedKinds() {
        BinRounds x = pricedTown();
        x.gate(0, 3);
        x.mark(0, 14);
        x.mark(2, 14);
        for (int i = 0; i < 4; i++) {
            x.tip(0, 14, 1000);
        }
        x.close();
        x.bin(0, 1, 14);
        x.move(4, 1, 1);
        x.band(0, 1);
        x.band(1, 5);
        x.table(0, 1000, 10);
        CHECKS.due("a sack: the band of the house of that day", x.claim(0, 4), 0);
        CHECKS.due("house 0's band", x.about(0, 1), 0);
        CHECKS.due("house 1's bands", x.about(1, 1), 5);
        CHECKS.due("tables as they are, halves as they were paid", x.claim(1, 0), 1010);
        CHECKS.due("paid halves stay", x.look(1, 7), 1);
        CHECKS.due("a bin that nobody had then", x.claim(2, 5), 0);
        CHECKS.due("it is charged", x.look(2, 8), 1);
        CHECKS.due("to nobody", x.charged(1), 0);
        CHECKS.due("paper", x.claim(3, 2), 0);
        CHECKS.due("all", x.count(6), 1010);
    }

    private static void promise21WeighOfAClosedDay() {
        BinRounds x = pricedTown();
        x.tip(0, 10, 2000);
        x.tip(0, 10, NONE);
        x.close();
        CHECKS.due("found out", x.charge(1), 104);
        CHECKS.due("the house's sum", x.charged(0), 208);
        x.table(0, 1, 1);
        CHECKS.due("weighed", x.weigh(1, 5300), 10);
        CHECKS.due("paid halves", x.look(1, 7), 10);
        CHECKS.due("lift and rate stay", x.charge(1), 110);
        CHECKS.due("the house's sum", x.charged(0), 214);
        CHECKS.due("the carry", x.load(0, 0), 300);
        CHECKS.due("no tip of the open day", x.load(0, 1), 0);
        CHECKS.noSuch("weighed already", () -> x.weigh(1, 0));
        x.tip(1, 10, NONE);
        x.close();
        CHECKS.due("nothing in it", x.weigh(2, 0), 0);
        CHECKS.due("the lift is left", x.charge(2), 1);
    }

    private static void promise21WeighUnderAGate() {
        BinRounds x = pricedTown();
        x.tip(0, 10, 2000);
        x.tip(0, 10, NONE);
        x.tip(1, 10, 3000);
        x.tip(0, 10, 500);
        x.tip(0, 10, NONE);
        x.gate(0, 8);
        x.close();
        CHECKS.due("4 of 8", x.look(0, 7), 4);
        CHECKS.due("4 of 4", x.look(1, 7), 4);
        CHECKS.due("0 of 0", x.look(3, 7), 0);
        CHECKS.due("fewer", x.weigh(1, 1000), 2);
        CHECKS.due("fewer are paid", x.look(1, 7), 2);
        CHECKS.due("the others' stay", x.look(3, 7), 0);
        x.terms(0, 1000);
        x.tip(0, 10, 4000);
        CHECKS.due("more than is left", x.weigh(4, 20000), 40);
        CHECKS.due("the gate less the others'", x.look(4, 7), 2);
        CHECKS.due("its charge", x.charge(4), 102);
        x.gate(1, 1);
        x.tip(1, 10, NONE);
        x.close();
        x.weigh(6, 50000);
        CHECKS.due("tolerance 1000 and far off", x.look(6, 7), 1);
        x.tip(1, 13, NONE);
        x.gate(1, 0);
        x.close();
        x.weigh(7, 50000);
        CHECKS.due("a day that did agree is not capped", x.look(7, 7), 100);
    }

    private static void promise21WeighWithoutBin() {
        BinRounds x = pricedTown();
        x.mark(0, 13);
        x.tip(0, 13, NONE);
        x.tip(0, 99, NONE);
        x.close();
        x.weigh(0, 1500);
        x.weigh(1, 2500);
        CHECKS.due("paid halves of an unknown one", x.look(1, 7), 5);
        CHECKS.due("not charged", x.look(1, 8), 0);
        CHECKS.due("its charge", x.charge(1), 0);
        CHECKS.due("a claimed one pays what was weighed", x.claim(0, 0), 103);
        CHECKS.due("it does not count for the middle", x.middle(0), 0);
        x.tip(0, 13, NONE);
        x.close();
        CHECKS.due("claimed before it is weighed", x.claim(2, 0), 100);
        CHECKS.due("then weighed", x.weigh(2, 1000), 2);
        CHECKS.due("its charge then", x.charge(2), 102);
        CHECKS.due("all of the house", x.charged(0), 205);
    }

    private static void promise23Charge() {
        BinRounds x = pricedTown();
        x.tip(0, 10, 1000);
        x.tip(0, 13, 1000);
        x.tip(0, 99, 1000);
        CHECKS.due("of an open day", x.charge(0), 0);
        x.close();
        CHECKS.due("its charge", x.charge(0), 102);
        CHECKS.due("a shared one without weights", x.charge(1), 0);
        CHECKS.due("an unknown one", x.charge(2), 0);
        CHECKS.noIndex("tip 3", () -> x.charge(3));
        CHECKS.noIndex("tip -1", () -> x.charge(-1));
    }

    private static void promise24Share() {
        BinRounds x = pricedTown();
        x.part(3, 2, 3, 0);
        x.part(3, 0, 2, 0);
        x.part(3, 1, 0, 0);
        x.part(3, 2, 2, 1);
        x.part(3, 1, 3, 1);
        x.part(3, 0, 1000, 2);
        x.table(3, 103, 0);
        x.tip(0, 13, 0);
        CHECKS.due("of an open day", x.share(0, 0), 0);
        x.close();
        x.tip(0, 13, 0);
        x.close();
        CHECKS.due("2 of 5", x.share(0, 0), 42);
        CHECKS.due("0 of 5 gets no left over one", x.share(0, 1), 0);
        CHECKS.due("3 of 5", x.share(0, 2), 61);
        CHECKS.due("charge", x.charge(0), 103);
        CHECKS.due("2 of 7: 29 and one", x.share(1, 0), 30);
        CHECKS.due("3 of 7: 44 and none", x.share(1, 1), 44);
        CHECKS.due("2 of 7: 29 and none", x.share(1, 2), 29);
        x.part(3, 1, 500, 2);
        CHECKS.due("a later part takes nothing", x.share(1, 1), 44);
        CHECKS.due("sum of 0", x.charged(0), 72);
        CHECKS.due("sum of 1", x.charged(1), 44);
        CHECKS.noIndex("tip 2", () -> x.share(2, 0));
        CHECKS.noIndex("tip -1", () -> x.share(-1, 0));
        CHECKS.noIndex("house 3", () -> x.share(0, 3));
        CHECKS.noIndex("house -1", () -> x.share(0, -1));
    }

    private static void promise24NobodysShare() {
        BinRounds x = pricedTown();
        x.tip(0, 13, 1000);
        x.close();
        x.part(3, 1, 5, 1);
        CHECKS.due("no weights on that day", x.share(0, 1), 0);
        CHECKS.due("nor its house's", x.share(0, 0), 0);
        x.part(3, 1, 0, 2);
        x.tip(0, 13, 1000);
        x.close();
        CHECKS.due("all is the one's", x.share(1, 1), 306);
        x.tip(0, 13, 1000);
        CHECKS.due("counted as charged", x.close(), 1);
        CHECKS.due("all weights are 0", x.charge(2), 0);
        CHECKS.due("and nobody's", x.share(2, 1), 0);
        CHECKS.due("all charges", x.count(6), 306);
        x.bin(3, 0, 20);
        x.part(5, 2, 1, 3);
        x.part(3, 1, 1, 3);
        x.tip(0, 13, 0);
        x.tip(0, 20, 0);
        x.close();
        CHECKS.due("another shared one's weights", x.share(3, 2), 0);
        CHECKS.due("its own", x.share(3, 1), 300);
        CHECKS.due("and the other's", x.share(4, 2), 300);
        CHECKS.due("sum of 1", x.charged(1), 606);
        CHECKS.due("sum of 2", x.charged(2), 300);
    }

    private static void promise25Charged() {
        BinRounds x = pricedTown();
        x.terms(30, 0);
        x.tip(0, 10, 1000);
        x.tip(0, 11, NONE);
        CHECKS.due("nothing yet", x.charged(0), 0);
        x.band(0, 2);
        CHECKS.due("bands at once", x.charged(0), 60);
        x.close();
        CHECKS.due("tips and bands", x.charged(0), 60 + 102 + 200);
        x.weigh(1, 500);
        CHECKS.due("weighed", x.charged(0), 60 + 102 + 202);
        CHECKS.due("another house", x.charged(1), 0);
        x.bill(0);
        x.pay(0, 5);
        CHECKS.due("bills and sums paid do not count", x.charged(0), 364);
        CHECKS.noIndex("house 3", () -> x.charged(3));
        CHECKS.noIndex("house -1", () -> x.charged(-1));
    }

    private static void promise26Bill() {
        BinRounds x = pricedTown();
        x.tip(0, 10, 2000);
        x.tip(0, 10, NONE);
        CHECKS.due("nothing yet", x.bill(0), 0);
        x.close();
        CHECKS.due("both", x.bill(0), 208);
        CHECKS.due("nothing more", x.bill(0), 0);
        x.weigh(1, 500);
        CHECKS.due("below 0", x.bill(0), -3);
        x.tip(0, 10, 0);
        x.close();
        CHECKS.due("what is new", x.bill(0), 100);
        CHECKS.due("another house", x.bill(1), 0);
        CHECKS.noIndex("house 3", () -> x.bill(3));
        CHECKS.noIndex("house -1", () -> x.bill(-1));
    }

    private static void promise27Pay() {
        BinRounds x = pricedTown();
        x.tip(0, 10, 2000);
        x.close();
        CHECKS.noIndex("house 3, sum 0", () -> x.pay(3, 0));
        CHECKS.noIndex("house -1", () -> x.pay(-1, 1));
        CHECKS.noNumber("sum 0", () -> x.pay(0, 0));
        CHECKS.noNumber("sum -1", () -> x.pay(0, -1));
        CHECKS.noNumber("sum 1000000001", () -> x.pay(0, 1000000001L));
        CHECKS.noNumber("a sum that is 1 as an int", () -> x.pay(0, 4294967297L));
        CHECKS.due("without a bill nothing is owed", x.pay(0, 1), -1);
        x.bill(0);
        CHECKS.due("less", x.pay(0, 100), 3);
        CHECKS.due("the greatest sum", x.pay(0, 1000000000L), 3 - 1000000000L);
        x.pay(0, 1000000000L);
        CHECKS.due("more than an int holds", x.pay(0, 1000000000L), 3 - 3000000000L);
        CHECKS.due("another house", x.pay(1, 7), -7);
        CHECKS.due("all that was paid", x.count(9), 3000000108L);
    }

    private static void promise34Count() {
        BinRounds x = pricedTown();
        x.terms(30, 0);
        x.part(3, 1, 1, 0);
        x.part(3, 2, 1, 0);
        x.tip(0, 10, 1000);
        x.tip(0, 13, 500);
        x.tip(0, 99, 500);
        x.band(0, 3);
        x.band(1, 1);
        CHECKS.due("charges of an open day", x.count(6), 0);
        x.close();
        x.close();
        x.pay(2, 11);
        long[] due = {2, 1, 3, 5, 2, 3, 405, 120, 525, 11};
        for (int what = 0; what < 10; what++) {
            CHECKS.due("count(" + what + ")", x.count(what), due[what]);
        }
        CHECKS.due("count(10)", x.count(10), NONE);
        CHECKS.due("count(-1)", x.count(-1), NONE);
        CHECKS.due("count of a great what", x.count(Integer.MAX_VALUE), NONE);
        CHECKS.due("a shared odd one", x.charged(1) - 30, 152);
        CHECKS.due("the houses' sums are all", x.charged(0) + x.charged(1) + x.charged(2), 525);
    }
}
