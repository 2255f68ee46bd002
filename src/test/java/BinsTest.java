/** Promises 6 to 11, 32 and 33: houses, bins, marks, moves, parts, and what is told of houses and bins. */
final class BinsTest {
    private static final Checks CHECKS = new Checks();

    public static void main(String[] args) {
        promise6House();
        promise7Bin();
        promise8Mark();
        promise9Lost();
        promise10Move();
        promise10MovesOfADay();
        promise11Part();
        promise32About();
        promise33State();
        CHECKS.end("BinsTest");
    }

    /** Streets 0 and 1, houses 0 and 1 in street 0 and 2 in street 1, cart 0. */
    private static BinRounds town() {
        BinRounds x = new BinRounds();
        x.street();
        x.street();
        x.house(0);
        x.house(0);
        x.house(1);
        x.cart(100000);
        return x;
    }

    private static void closeDays(BinRounds x, int days) {
        for (int i = 0; i < days; i++) {
            x.close();
        }
    }

    private static void promise6House() {
        BinRounds x = new BinRounds();
        CHECKS.noIndex("no street yet", () -> x.house(0));
        x.street();
        x.street();
        for (int i = 0; i < 60; i++) {
            CHECKS.due("house()", x.house(i % 2), i);
        }
        CHECKS.noRoom("house 61", () -> x.house(0));
        CHECKS.noIndex("house 61, no such street", () -> x.house(2));
        CHECKS.noIndex("street -1", () -> x.house(-1));
        CHECKS.due("count(2)", x.count(2), 60);
        CHECKS.due("the last one's street", x.about(59, 0), 1);
        CHECKS.due("the first one's street", x.about(0, 0), 0);
    }

    private static void promise7Bin() {
        BinRounds x = town();
        CHECKS.noIndex("house 3, no kind", () -> x.bin(5, 3, 0));
        CHECKS.noIndex("house -1", () -> x.bin(0, -1, 0));
        CHECKS.noNumber("kind 5", () -> x.bin(5, 0, 0));
        CHECKS.noNumber("kind -1", () -> x.bin(-1, 0, 0));
        CHECKS.due("none was made", x.count(3), 0);
        for (int i = 0; i < 120; i++) {
            CHECKS.due("bin()", x.bin(i % 5, i % 3, -i), i);
        }
        CHECKS.noRoom("bin 121", () -> x.bin(0, 0, 0));
        CHECKS.noNumber("bin 121, no kind", () -> x.bin(5, 0, 0));
        CHECKS.noIndex("bin 121, no house", () -> x.bin(0, 3, 0));
        CHECKS.due("count(3)", x.count(3), 120);
        CHECKS.due("kind of the last", x.state(119, 0), 4);
        CHECKS.due("mark of the last", x.state(119, 2), -119);
        CHECKS.due("house of the last", x.state(119, 3), 2);
        CHECKS.due("moves of the last", x.state(119, 5), 1);
        CHECKS.due("parts of a shared one", x.state(3, 6), 0);
    }

    private static void promise8Mark() {
        BinRounds x = town();
        x.bin(0, 0, 7);
        x.bin(0, 1, 8);
        x.bin(0, 2, 9);
        CHECKS.due("the same mark again", x.mark(0, 7), 1);
        CHECKS.due("two bear it", x.mark(1, 7), 2);
        CHECKS.due("three bear it", x.mark(2, 7), 3);
        CHECKS.due("one takes another", x.mark(0, Integer.MIN_VALUE), 1);
        CHECKS.due("its mark", x.state(0, 2), Integer.MIN_VALUE);
        x.lost(1);
        CHECKS.due("a lost one does not count", x.mark(2, 7), 1);
        CHECKS.due("a lost one bears one again", x.mark(1, 7), 2);
        CHECKS.due("mark 0 is a mark", x.mark(1, 0), 1);
        CHECKS.noIndex("bin 3", () -> x.mark(3, 7));
        CHECKS.noIndex("bin -1", () -> x.mark(-1, 7));
    }

    private static void promise9Lost() {
        BinRounds x = town();
        x.bin(0, 0, 0);
        CHECKS.due("it bore one", x.lost(0), true);
        CHECKS.due("it bears none", x.lost(0), false);
        CHECKS.due("none", x.state(0, 1), 0);
        CHECKS.due("a tip of mark 0 is of no bin", x.look(x.tip(0, 0, 100), 5), 1);
        x.mark(0, 3);
        CHECKS.due("it bore one again", x.lost(0), true);
        CHECKS.noIndex("bin 1", () -> x.lost(1));
        CHECKS.noIndex("bin -1", () -> x.lost(-1));
    }

    private static void promise10Move() {
        BinRounds x = town();
        x.bin(0, 0, 7);
        closeDays(x, 3);
        CHECKS.noIndex("bin 1", () -> x.move(1, 0, 3));
        CHECKS.noIndex("house 3, day 0", () -> x.move(0, 3, 0));
        CHECKS.noNumber("a closed day", () -> x.move(0, 1, 2));
        CHECKS.noNumber("day 700", () -> x.move(0, 1, 700));
        CHECKS.due("today", x.move(0, 1, 3), 2);
        CHECKS.due("today again", x.move(0, 2, 3), 3);
        CHECKS.due("house of today", x.state(0, 3), 2);
        CHECKS.due("a later day", x.move(0, 0, 9), 4);
        CHECKS.noNumber("below the latest move", () -> x.move(0, 1, 8));
        CHECKS.due("the latest one's day", x.move(0, 1, 9), 5);
        CHECKS.due("the last day", x.move(0, 1, 699), 6);
        x.move(0, 2, 699);
        CHECKS.due("the eighth", x.move(0, 0, 699), 8);
        CHECKS.noRoom("the ninth", () -> x.move(0, 0, 699));
        CHECKS.noNumber("the ninth, day 700", () -> x.move(0, 0, 700));
        CHECKS.noNumber("the ninth, a day before", () -> x.move(0, 0, 698));
        CHECKS.due("state(0, 5)", x.state(0, 5), 8);
        x.bin(3, 0, 8);
        CHECKS.due("a shared one moves, too", x.move(1, 2, 4), 2);
    }

    private static void promise10MovesOfADay() {
        BinRounds x = town();
        x.table(0, 10, 0);
        x.bin(0, 0, 7);
        x.move(0, 1, 1);
        x.move(0, 2, 1);
        x.move(0, 0, 2);
        for (int day = 0; day < 3; day++) {
            x.tip(0, 7, 0);
            x.close();
        }
        CHECKS.due("day 0 is house 0's", x.share(0, 0), 10);
        CHECKS.due("day 1 is the latest told one's", x.share(1, 2), 10);
        CHECKS.due("day 1 is not the other's", x.share(1, 1), 0);
        CHECKS.due("day 2 is house 0's", x.share(2, 0), 10);
        x.move(0, 1, 3);
        CHECKS.due("a later move takes nothing", x.charged(0), 20);
    }

    private static void promise11Part() {
        BinRounds x = town();
        x.bin(3, 0, 7);
        x.bin(0, 0, 8);
        closeDays(x, 2);
        CHECKS.noIndex("bin 2", () -> x.part(2, 0, 1, 2));
        CHECKS.noIndex("house 3, weight 1001", () -> x.part(0, 3, 1001, 2));
        CHECKS.noNumber("no shared one", () -> x.part(1, 0, 1, 2));
        CHECKS.noNumber("weight -1", () -> x.part(0, 0, -1, 2));
        CHECKS.noNumber("weight 1001", () -> x.part(0, 0, 1001, 2));
        CHECKS.noNumber("a closed day", () -> x.part(0, 0, 1, 1));
        CHECKS.noNumber("day 700", () -> x.part(0, 0, 1, 700));
        CHECKS.due("no part yet", x.state(0, 6), 0);
        CHECKS.due("weight 1000", x.part(0, 0, 1000, 2), 1);
        CHECKS.due("weight 0", x.part(0, 1, 0, 5), 2);
        CHECKS.noNumber("below another house's part", () -> x.part(0, 2, 1, 4));
        CHECKS.due("the day of the latest", x.part(0, 2, 1, 5), 3);
        x.move(0, 1, 600);
        CHECKS.due("moves are not asked", x.part(0, 2, 1, 6), 4);
        for (int i = 5; i <= 20; i++) {
            CHECKS.due("part()", x.part(0, 0, 1, 699), i);
        }
        CHECKS.noRoom("part 21", () -> x.part(0, 0, 1, 699));
        CHECKS.noNumber("part 21, weight -1", () -> x.part(0, 0, -1, 699));
        CHECKS.due("state(0, 6)", x.state(0, 6), 20);
    }

    private static void promise32About() {
        BinRounds x = town();
        x.bin(0, 0, 1);
        x.bin(3, 0, 2);
        x.bin(4, 2, 3);
        x.part(1, 1, 5, 0);
        x.move(0, 1, 1);
        CHECKS.due("street of 0", x.about(0, 0), 0);
        CHECKS.due("street of 2", x.about(2, 0), 1);
        CHECKS.due("bands of 0", x.about(0, 1), 0);
        x.band(0, 4);
        CHECKS.due("bands of 0, bought", x.about(0, 1), 4);
        CHECKS.due("bins of 0, a shared one too", x.about(0, 2), 2);
        CHECKS.due("bins of 1, its part is none", x.about(1, 2), 0);
        x.close();
        CHECKS.due("bins of 0, one moved", x.about(0, 2), 1);
        CHECKS.due("bins of 1, one came", x.about(1, 2), 1);
        CHECKS.due("bins of 2", x.about(2, 2), 1);
        CHECKS.noSuch("what 3", () -> x.about(0, 3));
        CHECKS.noSuch("what -1", () -> x.about(0, -1));
        CHECKS.noIndex("house 3, what 3", () -> x.about(3, 3));
        CHECKS.noIndex("house -1", () -> x.about(-1, 0));
    }

    private static void promise33State() {
        BinRounds x = town();
        x.bin(2, 1, 77);
        x.bin(3, 2, 0);
        CHECKS.due("kind", x.state(0, 0), 2);
        CHECKS.due("kind of a shared one", x.state(1, 0), 3);
        CHECKS.due("bears a mark", x.state(0, 1), 1);
        CHECKS.due("its mark", x.state(0, 2), 77);
        CHECKS.due("mark 0 is one", x.state(1, 1), 1);
        CHECKS.due("its house", x.state(0, 3), 1);
        CHECKS.due("a shared one's house", x.state(1, 3), 2);
        CHECKS.due("wrongs", x.state(0, 4), 0);
        x.tip(0, 77, 0);
        x.wrong(0);
        CHECKS.due("wrongs while the day is open", x.state(0, 4), 0);
        x.close();
        CHECKS.due("wrongs", x.state(0, 4), 1);
        x.lost(0);
        CHECKS.due("bears none", x.state(0, 1), 0);
        CHECKS.due("no mark", x.state(0, 2), 0);
        x.move(0, 2, 2);
        CHECKS.due("its house today", x.state(0, 3), 1);
        x.close();
        CHECKS.due("its house now", x.state(0, 3), 2);
        CHECKS.due("moves", x.state(0, 5), 2);
        x.part(1, 0, 1, 2);
        CHECKS.due("parts", x.state(1, 6), 1);
        CHECKS.due("parts of another kind", x.state(0, 6), 0);
        CHECKS.noSuch("what 7", () -> x.state(0, 7));
        CHECKS.noSuch("what -1", () -> x.state(0, -1));
        CHECKS.noIndex("bin 2, what 7", () -> x.state(2, 7));
        CHECKS.noIndex("bin -1", () -> x.state(-1, 0));
    }
}
