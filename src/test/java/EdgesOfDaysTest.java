/**
 * The boundary cases of the document's first part (days, rounds, houses, bins) and of promises 1 to 11, 30, 32
 * and 33: a test for each sentence, the number just inside and just outside. RefusalsTest asks what a refused
 * call leaves as it was.
 */
final class EdgesOfDaysTest {
    private static final Checks CHECKS = new Checks();
    private static final int NONE = BinRounds.NONE;
    private static final int LATE = BinRounds.LATE;
    private static final int MIN = Integer.MIN_VALUE;
    private static final int MAX = Integer.MAX_VALUE;

    public static void main(String[] args) {
        anObjectServesFor512Calls();
        aNewObject();
        daysAreNumberedFrom0();
        daysAreOfWeeks();
        atMost10Streets();
        noneAtFirst();
        weekdays0To4();
        oddWeeks();
        evenWeeks();
        allWeeksAndNone();
        justSoManyDaysAhead();
        lateBehindDay5();
        lateInAWeekOfHolidays();
        holidaysFromTheOpenDayTo699();
        holidayIsAnotherState();
        weeks0To99();
        atMost60Houses();
        atMost120Bins();
        kindsAndTheirGroups();
        aMarkIsAnyNumber();
        aMarkOrNone();
        severalBearOneMark();
        atMost8Moves();
        theFirstMoveIsFromTheOpenDayOn();
        theLatestToldMove();
        movesFromTheOpenDayTo699();
        movesNotBelowTheLatest();
        atMost20Parts();
        theLatestToldPart();
        partsFromTheOpenDayTo699();
        partsNotBelowTheLatest();
        weights0To1000();
        sharedBinsMoveForRounds();
        dueInItsWeekOrTheThreeBehind();
        dueFromTheOpenDayOn();
        dueBehindWeek99();
        aboutAHouse();
        binsOfAHouseToday();
        stateOfABin();
        CHECKS.end("EdgesOfDaysTest");
    }

    private static BinRounds streets(int n) {
        BinRounds x = new BinRounds();
        for (int i = 0; i < n; i++) {
            x.street();
        }
        return x;
    }

    /** Street 0, houses 0 to n - 1. */
    private static BinRounds houses(int n) {
        BinRounds x = streets(1);
        for (int i = 0; i < n; i++) {
            x.house(0);
        }
        return x;
    }

    private static void closeDays(BinRounds x, int days) {
        for (int i = 0; i < days; i++) {
            x.close();
        }
    }

    private static void holidays(BinRounds x, int first, int last) {
        for (int day = first; day <= last; day++) {
            x.holiday(day, true);
        }
    }

    // "An object is used for at most 512 calls after it has been made."
    private static void anObjectServesFor512Calls() {
        BinRounds x = new BinRounds();
        x.street();
        x.house(0);
        x.bin(0, 0, 7);
        x.cart(5);
        x.table(0, 1, 1);
        for (int i = 0; i < 505; i++) {
            CHECKS.due("tip " + i, x.tip(0, 7, 500), i);
        }
        CHECKS.due("call 511", x.close(), 505);
        CHECKS.due("call 512", x.charged(0), 1010);
        BinRounds days = new BinRounds();
        closeDays(days, 511);
        CHECKS.due("511 days", days.count(0), 511);
    }

    // "Nothing is there; day 0 is OPEN."
    private static void aNewObject() {
        BinRounds x = new BinRounds();
        for (int what = 0; what < 10; what++) {
            CHECKS.due("new count(" + what + ")", x.count(what), 0);
        }
        CHECKS.noIndex("no street", () -> x.when(0, 0, 0));
        CHECKS.noIndex("no house", () -> x.charged(0));
        CHECKS.noIndex("no bin", () -> x.middle(0));
        CHECKS.noIndex("no cart", () -> x.load(0, 0));
        CHECKS.noIndex("no tip", () -> x.charge(0));
        CHECKS.due("day 0 is open", x.holiday(0, true), true);
        x.street();
        x.house(0);
        x.bin(0, 0, 7);
        CHECKS.due("and bins are had from it on", x.state(0, 3), 0);
    }

    // "DAYS are numbered from 0 on ... One day is OPEN, 0 at first; close() ends it and opens the next."
    private static void daysAreNumberedFrom0() {
        BinRounds x = new BinRounds();
        for (int day = 0; day < 10; day++) {
            CHECKS.due("the open day", x.count(0), day);
            CHECKS.due("a day without tips", x.close(), 0);
        }
        CHECKS.due("each close() opens one", x.count(0), 10);
    }

    // "day d is of WEEK d / 7 (rounded down) and is its day d % 7."
    private static void daysAreOfWeeks() {
        BinRounds x = houses(1);
        x.bin(0, 0, 7);
        x.round(0, 0, 0, 3);
        CHECKS.due("week 0 begins with day 0", x.when(0, 0, 0), 0);
        CHECKS.due("week 1 begins with day 7", x.when(0, 0, 1), 7);
        CHECKS.due("week 99 begins with day 693", x.when(0, 0, 99), 693);
        x.holiday(6, true);
        CHECKS.due("day 6 is of week 0", x.when(0, 0, 1), 7);
        x.holiday(7, true);
        CHECKS.due("day 7 is of week 1", x.when(0, 0, 1), 8);
        CHECKS.due("and not of week 0", x.when(0, 0, 0), 0);
        CHECKS.due("due on day 0", x.due(0), 0);
        for (int day = 1; day <= 8; day++) {
            x.close();
            CHECKS.due("due on day " + day, x.due(0), 8);
        }
        x.close();
        CHECKS.due("due on day 9", x.due(0), 14);
    }

    // "STREETS (at most 10, numbered from 0 on)". "A new STREET: its number. ... there are 10."
    private static void atMost10Streets() {
        BinRounds x = streets(9);
        CHECKS.noIndex("street 9 is not there yet", () -> x.house(9));
        CHECKS.due("the tenth", x.street(), 9);
        CHECKS.noRoom("the eleventh", x::street);
        CHECKS.noRoom("and once more", x::street);
        CHECKS.due("ten", x.count(1), 10);
        CHECKS.due("a house in the tenth", x.house(9), 0);
        CHECKS.noIndex("street 10", () -> x.house(10));
    }

    // "have for each GROUP ... a ROUND, none at first"
    private static void noneAtFirst() {
        BinRounds x = houses(1);
        for (int group = 0; group < 3; group++) {
            CHECKS.due("group " + group + ", an even week", x.when(0, group, 0), NONE);
            CHECKS.due("group " + group + ", an odd week", x.when(0, group, 99), NONE);
        }
        holidays(x, 0, 6);
        CHECKS.due("a week of holidays is not late without a round", x.when(0, 0, 0), NONE);
        x.bin(0, 0, 7);
        CHECKS.due("nothing is due", x.due(0), NONE);
        x.round(0, 1, 3, 3);
        CHECKS.due("one group's round alone", x.when(0, 0, 1), NONE);
        CHECKS.due("that group's", x.when(0, 1, 1), 10);
        CHECKS.due("nor another's", x.when(0, 2, 1), NONE);
    }

    // "a WEEKDAY 0 to 4". "a number is none of those told."
    private static void weekdays0To4() {
        BinRounds x = streets(1);
        for (int weekday = 0; weekday <= 4; weekday++) {
            x.round(0, 0, weekday, 3);
            CHECKS.due("weekday " + weekday, x.when(0, 0, 3), 21 + weekday);
        }
        for (int weekday : new int[] {-1, 5, MIN, MAX}) {
            CHECKS.noNumber("weekday " + weekday, () -> x.round(0, 0, weekday, 3));
        }
        for (int group : new int[] {-1, 3, MIN, MAX}) {
            CHECKS.noNumber("group " + group, () -> x.round(0, group, 0, 3));
        }
        for (int weeks : new int[] {-1, 4, MIN, MAX}) {
            CHECKS.noNumber("weeks " + weeks, () -> x.round(0, 0, 0, weeks));
        }
        CHECKS.due("the latest right one stands", x.when(0, 0, 3), 25);
    }

    // "WEEKS: 1 the odd ones"
    private static void oddWeeks() {
        BinRounds x = streets(1);
        x.round(0, 0, 2, 1);
        CHECKS.due("week 0", x.when(0, 0, 0), NONE);
        CHECKS.due("week 1", x.when(0, 0, 1), 9);
        CHECKS.due("week 98", x.when(0, 0, 98), NONE);
        CHECKS.due("week 99", x.when(0, 0, 99), 695);
    }

    // "2 the even ones"
    private static void evenWeeks() {
        BinRounds x = streets(1);
        x.round(0, 2, 2, 2);
        CHECKS.due("week 0 is even", x.when(0, 2, 0), 2);
        CHECKS.due("week 1", x.when(0, 2, 1), NONE);
        CHECKS.due("week 98", x.when(0, 2, 98), 688);
        CHECKS.due("week 99", x.when(0, 2, 99), NONE);
    }

    // "3 all." "(weeks 0: none)"
    private static void allWeeksAndNone() {
        BinRounds x = streets(1);
        x.round(0, 1, 2, 3);
        for (int week = 0; week < 100; week++) {
            CHECKS.due("week " + week, x.when(0, 1, week), 7 * week + 2);
        }
        x.round(0, 1, 2, 0);
        CHECKS.due("none in week 0", x.when(0, 1, 0), NONE);
        CHECKS.due("none in week 99", x.when(0, 1, 99), NONE);
    }

    // "on the day that is no HOLIDAY and has just w days ahead of it, from the WEEK's day 0 on, that are none either"
    private static void justSoManyDaysAhead() {
        BinRounds x = streets(1);
        x.round(0, 0, 2, 3);
        x.round(0, 1, 0, 3);
        x.holiday(13, true);
        CHECKS.due("day 6 of the week before", x.when(0, 0, 2), 16);
        x.holiday(17, true);
        CHECKS.due("the day behind it", x.when(0, 0, 2), 16);
        x.holiday(16, true);
        CHECKS.due("its own day and the one behind", x.when(0, 0, 2), 18);
        x.holiday(17, false);
        CHECKS.due("its own day", x.when(0, 0, 2), 17);
        x.holiday(14, true);
        CHECKS.due("and the week's day 0", x.when(0, 0, 2), 18);
        CHECKS.due("weekday 0 behind it", x.when(0, 1, 2), 15);
        CHECKS.due("the next week", x.when(0, 0, 3), 23);
        x.holiday(16, false);
        CHECKS.due("the week's day 0 alone", x.when(0, 0, 2), 17);
        x.holiday(0, true);
        CHECKS.due("day 0 is a holiday as others are", x.when(0, 1, 0), 1);
        CHECKS.due("and moves weekday 2", x.when(0, 0, 0), 3);
    }

    // "it is LATE, on no day, if that would be behind day 5."
    private static void lateBehindDay5() {
        for (int weekday = 0; weekday <= 4; weekday++) {
            BinRounds x = streets(1);
            x.round(0, 0, weekday, 3);
            holidays(x, 7, 7 + 4 - weekday);
            CHECKS.due("weekday " + weekday + " on day 5", x.when(0, 0, 1), 12);
            x.holiday(13, true);
            CHECKS.due("and day 6 a holiday", x.when(0, 0, 1), 12);
            x.holiday(13, false);
            x.holiday(12, true);
            CHECKS.due("weekday " + weekday + " would be on day 6", x.when(0, 0, 1), LATE);
            CHECKS.due("the week before", x.when(0, 0, 0), weekday);
            CHECKS.due("the week behind", x.when(0, 0, 2), 14 + weekday);
        }
    }

    // As above: there is no such day in the WEEK at all.
    private static void lateInAWeekOfHolidays() {
        BinRounds x = streets(1);
        x.round(0, 0, 0, 3);
        x.round(0, 1, 4, 2);
        x.round(0, 2, 4, 1);
        holidays(x, 693, 699);
        CHECKS.due("weekday 0", x.when(0, 0, 99), LATE);
        CHECKS.due("none is not late", x.when(0, 1, 99), NONE);
        CHECKS.due("weekday 4", x.when(0, 2, 99), LATE);
        x.holiday(698, false);
        CHECKS.due("day 5 alone is none", x.when(0, 0, 99), 698);
        x.holiday(698, true);
        x.holiday(699, false);
        CHECKS.due("day 6 alone is none", x.when(0, 0, 99), LATE);
    }

    // "it is below the one that is OPEN, or above 699."
    private static void holidaysFromTheOpenDayTo699() {
        BinRounds x = new BinRounds();
        CHECKS.noNumber("day -1", () -> x.holiday(-1, true));
        CHECKS.due("day 0", x.holiday(0, true), true);
        CHECKS.due("day 699", x.holiday(699, true), true);
        CHECKS.noNumber("day 700", () -> x.holiday(700, true));
        closeDays(x, 8);
        CHECKS.noNumber("day 7 is closed", () -> x.holiday(7, true));
        CHECKS.noNumber("day 0 is closed", () -> x.holiday(0, false));
        CHECKS.due("day 8 is open", x.holiday(8, true), true);
        CHECKS.due("day 9", x.holiday(9, true), true);
        x.close();
        CHECKS.noNumber("day 8 is closed now", () -> x.holiday(8, false));
    }

    // "A day is a HOLIDAY, or not: whether that is another state than before."
    private static void holidayIsAnotherState() {
        BinRounds x = new BinRounds();
        CHECKS.due("it was none", x.holiday(5, false), false);
        CHECKS.due("it is one", x.holiday(5, true), true);
        CHECKS.due("told twice", x.holiday(5, true), false);
        CHECKS.due("another day", x.holiday(6, true), true);
        CHECKS.due("it is none", x.holiday(5, false), true);
        CHECKS.due("told twice", x.holiday(5, false), false);
        CHECKS.due("the other day is one still", x.holiday(6, true), false);
    }

    // "no such GROUP, or the WEEK is not 0 to 99."
    private static void weeks0To99() {
        BinRounds x = streets(1);
        x.round(0, 0, 4, 3);
        CHECKS.due("week 0", x.when(0, 0, 0), 4);
        CHECKS.due("week 99", x.when(0, 0, 99), 697);
        for (int week : new int[] {-1, 100, MIN, MAX}) {
            CHECKS.noNumber("week " + week, () -> x.when(0, 0, week));
        }
        for (int group : new int[] {-1, 3, MIN, MAX}) {
            CHECKS.noNumber("group " + group, () -> x.when(0, group, 0));
        }
        closeDays(x, 14);
        CHECKS.due("a week that is over", x.when(0, 0, 1), 11);
    }

    // "HOUSES (at most 60)". "there are 60."
    private static void atMost60Houses() {
        BinRounds x = houses(59);
        CHECKS.noIndex("house 59 is not there yet", () -> x.about(59, 0));
        CHECKS.due("the sixtieth", x.house(0), 59);
        CHECKS.noRoom("the one behind it", () -> x.house(0));
        CHECKS.due("sixty", x.count(2), 60);
        CHECKS.due("a bin at the last", x.bin(0, 59, 7), 0);
        CHECKS.noIndex("a bin at none", () -> x.bin(0, 60, 7));
    }

    // "BINS (at most 120)". "there are 120."
    private static void atMost120Bins() {
        BinRounds x = houses(1);
        for (int i = 0; i < 119; i++) {
            x.bin(0, 0, i);
        }
        CHECKS.noIndex("bin 119 is not there yet", () -> x.lost(119));
        CHECKS.due("the last one", x.bin(4, 0, 7), 119);
        CHECKS.noRoom("the one behind it", () -> x.bin(0, 0, 7));
        CHECKS.due("all", x.count(3), 120);
        CHECKS.due("two bear 7, the last one does", x.mark(119, 7), 2);
        CHECKS.noIndex("bin 120", () -> x.mark(120, 7));
    }

    // "a KIND: 0 BIN, 1 GREEN, 2 PAPER, 3 SHARED, 4 SACK (of GROUP 0, 1, 2, 0, 0)". "no such KIND"
    private static void kindsAndTheirGroups() {
        BinRounds x = houses(1);
        x.round(0, 0, 1, 3);
        x.round(0, 1, 2, 3);
        x.round(0, 2, 3, 3);
        int[] due = {1, 2, 3, 1, 1};
        for (int kind = 0; kind <= 4; kind++) {
            CHECKS.due("kind " + kind, x.bin(kind, 0, 7), kind);
            CHECKS.due("its round", x.due(kind), due[kind]);
            CHECKS.due("told back", x.state(kind, 0), kind);
        }
        for (int kind : new int[] {-1, 5, MIN, MAX}) {
            CHECKS.noNumber("kind " + kind, () -> x.bin(kind, 0, 7));
        }
    }

    // "a MARK, any number"
    private static void aMarkIsAnyNumber() {
        BinRounds x = houses(1);
        x.cart(0);
        int[] marks = {MIN, MIN + 1, -2, -1, 0, 1, MAX - 1, MAX};
        for (int i = 0; i < marks.length; i++) {
            x.bin(0, 0, marks[i]);
            CHECKS.due("it bears " + marks[i], x.state(i, 1), 1);
            CHECKS.due("its mark", x.state(i, 2), marks[i]);
            CHECKS.due("its tip", x.look(x.tip(0, marks[i], 0), 4), i);
            CHECKS.due("the tip's mark", x.look(i, 2), marks[i]);
        }
        CHECKS.due("another number", x.look(x.tip(0, 2, 0), 5), 1);
        CHECKS.due("it bears the same again", x.mark(0, MIN), 1);
        CHECKS.due("it bears what another bears", x.mark(0, MAX), 2);
    }

    // "or none". "The BIN bears no MARK any more: whether it bore one." "that MARK (0 without one)"
    private static void aMarkOrNone() {
        BinRounds x = houses(1);
        x.cart(0);
        x.bin(0, 0, 7);
        x.bin(0, 0, 0);
        CHECKS.due("it bore one", x.lost(0), true);
        CHECKS.due("told twice", x.lost(0), false);
        CHECKS.due("it bears none", x.state(0, 1), 0);
        CHECKS.due("0 without one", x.state(0, 2), 0);
        CHECKS.due("but does not bear 0", x.mark(1, 0), 1);
        CHECKS.due("a tip of 7", x.look(x.tip(0, 7, 0), 5), 1);
        CHECKS.due("a tip of 0", x.look(x.tip(0, 0, 0), 4), 1);
        CHECKS.due("it bore 0", x.lost(1), true);
        CHECKS.due("told twice", x.lost(1), false);
        CHECKS.due("it bears one again", x.mark(0, -5), 1);
        CHECKS.due("and bore it", x.lost(0), true);
    }

    // "(several may bear one MARK)". "how many BINS bear it."
    private static void severalBearOneMark() {
        BinRounds x = houses(2);
        for (int i = 0; i < 5; i++) {
            x.bin(i, i % 2, 100 + i);
            CHECKS.due("bears it, too", x.mark(i, 7), i + 1);
        }
        CHECKS.due("told twice", x.mark(4, 7), 5);
        CHECKS.due("one bears another", x.mark(2, 8), 1);
        x.lost(0);
        CHECKS.due("three are left", x.mark(1, 7), 3);
    }

    // "MOVES ... (at most 8". "how many MOVES it has." "it has 8."
    private static void atMost8Moves() {
        BinRounds x = houses(2);
        x.bin(0, 0, 7);
        x.bin(0, 0, 8);
        CHECKS.due("the first one is with the bin", x.state(0, 5), 1);
        for (int i = 2; i <= 8; i++) {
            CHECKS.due("move " + i, x.move(0, i % 2, 3), i);
        }
        CHECKS.noRoom("move 9", () -> x.move(0, 1, 3));
        CHECKS.noRoom("move 9, a later day", () -> x.move(0, 1, 4));
        CHECKS.due("eight", x.state(0, 5), 8);
        CHECKS.due("another bin has its own", x.move(1, 1, 0), 2);
        closeDays(x, 3);
        CHECKS.due("the eighth counts", x.state(0, 3), 0);
    }

    // "the first one is with the BIN, from the day on that is OPEN then"; "none has it, if there is no such MOVE"
    private static void theFirstMoveIsFromTheOpenDayOn() {
        BinRounds x = houses(2);
        x.cart(0);
        x.table(0, 10, 0);
        x.bin(0, 0, 7);
        x.bin(1, 0, 7);
        x.tip(0, 7, 0);
        x.close();
        x.tip(0, 7, 0);
        x.bin(0, 1, 7);
        x.tip(0, 7, 0);
        CHECKS.due("it has it today", x.state(2, 3), 1);
        x.close();
        CHECKS.due("the day before it was there", x.claim(0, 2), 0);
        CHECKS.due("nobody's", x.share(0, 1), 0);
        CHECKS.due("that very day, a tip before it", x.claim(1, 2), 10);
        CHECKS.due("that very day", x.claim(2, 2), 10);
        CHECKS.due("house 1's", x.share(1, 1) + x.share(2, 1), 20);
    }

    // "on a day it has it whose MOVE is the latest told of those from that day or an earlier one"
    private static void theLatestToldMove() {
        BinRounds x = houses(4);
        x.cart(0);
        x.table(0, 10, 0);
        x.bin(0, 0, 7);
        x.move(0, 1, 2);
        x.move(0, 2, 2);
        x.move(0, 3, 4);
        int[] owners = {0, 0, 2, 2, 3, 3};
        for (int day = 0; day < owners.length; day++) {
            CHECKS.due("has it on day " + day, x.state(0, 3), owners[day]);
            x.tip(0, 7, 0);
            x.close();
        }
        x.move(0, 1, 6);
        for (int day = 0; day < owners.length; day++) {
            CHECKS.due("its tip's share of day " + day, x.share(day, owners[day]), 10);
        }
        CHECKS.due("house 1 never had it with a tip", x.charged(1), 0);
        CHECKS.due("house 1 has it", x.state(0, 3), 1);
        x.move(0, 0, 6);
        CHECKS.due("the open day's latest told", x.state(0, 3), 0);
    }

    // move(): "the day is below the one that is OPEN ... or above 699"
    private static void movesFromTheOpenDayTo699() {
        BinRounds x = houses(2);
        x.bin(0, 0, 7);
        x.bin(0, 0, 8);
        CHECKS.noNumber("day -1", () -> x.move(0, 1, -1));
        CHECKS.due("day 0", x.move(0, 1, 0), 2);
        closeDays(x, 5);
        CHECKS.noNumber("day 4 is closed", () -> x.move(0, 0, 4));
        CHECKS.noNumber("day 4 is closed for a bin that never moved", () -> x.move(1, 1, 4));
        CHECKS.due("day 5 is open", x.move(0, 0, 5), 3);
        CHECKS.noNumber("day 700", () -> x.move(0, 0, 700));
        CHECKS.noNumber("a great day", () -> x.move(0, 0, MAX));
        CHECKS.noNumber("a day far below", () -> x.move(0, 0, MIN));
        CHECKS.due("day 699", x.move(0, 1, 699), 4);
        CHECKS.due("which is not today", x.state(0, 3), 0);
    }

    // move(): "or below that of the latest MOVE"
    private static void movesNotBelowTheLatest() {
        BinRounds x = houses(3);
        x.bin(0, 0, 7);
        x.bin(0, 0, 8);
        x.move(0, 1, 9);
        CHECKS.noNumber("day 8", () -> x.move(0, 2, 8));
        CHECKS.noNumber("the open day", () -> x.move(0, 2, 0));
        CHECKS.due("day 9", x.move(0, 2, 9), 3);
        CHECKS.due("day 10", x.move(0, 0, 10), 4);
        CHECKS.noNumber("day 9 is below it now", () -> x.move(0, 1, 9));
        CHECKS.due("another bin's moves are not asked", x.move(1, 1, 8), 2);
    }

    // "A SHARED one has PARTS instead ... (at most 20)". "how many PARTS it has." "it has 20."
    private static void atMost20Parts() {
        BinRounds x = houses(2);
        x.bin(3, 0, 7);
        x.bin(3, 0, 8);
        CHECKS.due("no parts yet", x.state(0, 6), 0);
        for (int i = 1; i <= 20; i++) {
            CHECKS.due("part " + i, x.part(0, 1, 1, 3), i);
        }
        CHECKS.noRoom("part 21", () -> x.part(0, 1, 1, 3));
        CHECKS.noRoom("part 21, another house", () -> x.part(0, 0, 1, 3));
        CHECKS.due("twenty", x.state(0, 6), 20);
        CHECKS.due("another bin has its own", x.part(1, 1, 1, 0), 1);
        CHECKS.due("moves are no parts", x.move(0, 1, 3), 2);
    }

    // "on a day the weight of a HOUSE is that of its latest told PART from that day or an earlier one (0 without one)"
    private static void theLatestToldPart() {
        BinRounds x = houses(3);
        x.cart(0);
        x.table(3, 60, 0);
        x.bin(3, 0, 7);
        x.part(0, 1, 5, 1);
        x.part(0, 1, 1, 1);
        x.part(0, 2, 2, 2);
        x.part(0, 1, 0, 3);
        x.part(0, 0, 3, 4);
        long[][] due = {{0, 0, 0}, {0, 60, 0}, {0, 20, 40}, {0, 0, 60}, {36, 0, 24}};
        for (int day = 0; day < due.length; day++) {
            x.tip(0, 7, 0);
            x.close();
            for (int house = 0; house < 3; house++) {
                CHECKS.due("day " + day + ", house " + house, x.share(day, house), due[day][house]);
            }
        }
        CHECKS.due("nobody's before the first part", x.charge(0), 0);
    }

    // part(): "the day as of move()"
    private static void partsFromTheOpenDayTo699() {
        BinRounds x = houses(1);
        x.bin(3, 0, 7);
        CHECKS.noNumber("day -1", () -> x.part(0, 0, 1, -1));
        CHECKS.due("day 0", x.part(0, 0, 1, 0), 1);
        closeDays(x, 5);
        CHECKS.noNumber("day 4 is closed", () -> x.part(0, 0, 1, 4));
        CHECKS.due("day 5 is open", x.part(0, 0, 1, 5), 2);
        CHECKS.noNumber("day 700", () -> x.part(0, 0, 1, 700));
        CHECKS.noNumber("a great day", () -> x.part(0, 0, 1, MAX));
        CHECKS.noNumber("a day far below", () -> x.part(0, 0, 1, MIN));
        CHECKS.due("day 699", x.part(0, 0, 1, 699), 3);
    }

    // part(): "(of the latest PART)"
    private static void partsNotBelowTheLatest() {
        BinRounds x = houses(2);
        x.bin(3, 0, 7);
        x.bin(3, 0, 8);
        x.move(0, 1, 20);
        CHECKS.due("below the latest move", x.part(0, 0, 1, 9), 1);
        CHECKS.noNumber("day 8", () -> x.part(0, 0, 1, 8));
        CHECKS.noNumber("day 8, another house", () -> x.part(0, 1, 1, 8));
        CHECKS.due("day 9", x.part(0, 1, 1, 9), 2);
        CHECKS.due("another bin's parts are not asked", x.part(1, 0, 1, 8), 1);
        x.part(0, 0, 1, 30);
        CHECKS.due("below the latest part", x.move(0, 1, 20), 3);
    }

    // part(): "it is of another KIND, the weight not 0 to 1000"
    private static void weights0To1000() {
        BinRounds x = houses(1);
        for (int kind = 0; kind <= 4; kind++) {
            int bin = x.bin(kind, 0, 7);
            if (kind != 3) {
                CHECKS.noNumber("kind " + kind, () -> x.part(bin, 0, 1, 0));
            }
        }
        CHECKS.due("weight 0", x.part(3, 0, 0, 0), 1);
        CHECKS.due("weight 1000", x.part(3, 0, 1000, 0), 2);
        for (int weight : new int[] {-1, 1001, MIN, MAX}) {
            CHECKS.noNumber("weight " + weight, () -> x.part(3, 0, weight, 0));
        }
    }

    // "(A SHARED one has no PARTS yet; it has that HOUSE for rounds alone.)"
    private static void sharedBinsMoveForRounds() {
        BinRounds x = streets(2);
        x.house(0);
        x.house(1);
        x.round(0, 0, 1, 3);
        x.round(1, 0, 3, 3);
        x.cart(0);
        x.table(3, 60, 0);
        x.bin(3, 0, 7);
        CHECKS.due("its house", x.state(0, 3), 0);
        CHECKS.due("its house's round", x.due(0), 1);
        CHECKS.due("its house's bins", x.about(0, 2), 1);
        x.tip(0, 7, 0);
        x.close();
        CHECKS.due("its house bears no charge", x.share(0, 0), 0);
        x.move(0, 1, 1);
        x.part(0, 0, 1, 1);
        x.tip(0, 7, 0);
        x.close();
        CHECKS.due("the other's round", x.due(0), 3);
        CHECKS.due("the part's charge", x.share(1, 0), 60);
        CHECKS.due("not the house's that has it", x.share(1, 1), 0);
    }

    // due(): "in its WEEK or the three behind it"; "NONE"
    private static void dueInItsWeekOrTheThreeBehind() {
        BinRounds x = houses(1);
        x.bin(1, 0, 7);
        x.round(0, 1, 4, 3);
        CHECKS.due("its own week", x.due(0), 4);
        x.holiday(3, true);
        CHECKS.due("its own week, day 5", x.due(0), 5);
        for (int week = 0; week < 3; week++) {
            holidays(x, 7 * week, 7 * week + 1);
            CHECKS.due("late in week " + week, x.due(0), 7 * week + 11);
        }
        holidays(x, 21, 22);
        CHECKS.due("late in the third week behind it, too", x.due(0), NONE);
        closeDays(x, 6);
        CHECKS.due("day 6 is of that week still", x.due(0), NONE);
        x.close();
        CHECKS.due("from day 7 on week 4 is the third", x.due(0), 32);
        x.round(0, 1, 4, 0);
        CHECKS.due("no round", x.due(0), NONE);
    }

    // due(): "The next day, from the one that is OPEN on"
    private static void dueFromTheOpenDayOn() {
        BinRounds x = houses(1);
        x.bin(2, 0, 7);
        x.round(0, 2, 3, 2);
        int[] due = {3, 3, 3, 3, 17, 17};
        for (int day = 0; day < due.length; day++) {
            CHECKS.due("on day " + day, x.due(0), due[day]);
            x.close();
        }
        x.round(0, 2, 0, 3);
        x.close();
        CHECKS.due("day 7 is open and the day", x.due(0), 7);
        x.holiday(7, true);
        CHECKS.due("it is moved", x.due(0), 8);
    }

    // due(): "(WEEKS behind 99 have no HOLIDAYS.)" Behind the 512th call.
    private static void dueBehindWeek99() {
        BinRounds x = houses(1);
        x.bin(0, 0, 7);
        x.bin(1, 0, 7);
        x.round(0, 0, 1, 3);
        x.round(0, 1, 4, 1);
        closeDays(x, 693);
        CHECKS.due("week 99", x.due(0), 694);
        holidays(x, 693, 699);
        CHECKS.due("week 100", x.due(0), 701);
        CHECKS.due("week 101", x.due(1), 711);
        x.round(0, 1, 4, 2);
        CHECKS.due("week 100 alone", x.due(1), 704);
        closeDays(x, 6);
        CHECKS.due("on the last day", x.due(0), 701);
    }

    // about(): "0 its STREET, 1 its BANDS"
    private static void aboutAHouse() {
        BinRounds x = streets(10);
        for (int house = 0; house < 10; house++) {
            x.house(9 - house);
        }
        x.band(3, 2);
        for (int house = 0; house < 10; house++) {
            CHECKS.due("street of " + house, x.about(house, 0), 9 - house);
            CHECKS.due("bands of " + house, x.about(house, 1), house == 3 ? 2 : 0);
            CHECKS.due("bins of " + house, x.about(house, 2), 0);
        }
        for (int what : new int[] {-1, 3, MIN, MAX}) {
            CHECKS.noSuch("about what " + what, () -> x.about(0, what));
        }
    }

    // state(): "0 KIND, 1 1 if it bears a MARK, 2 that MARK (0 without one), 3 the HOUSE that has it on the day that
    // is OPEN, 4 WRONGS, 5 MOVES, 6 PARTS."
    private static void stateOfABin() {
        BinRounds x = houses(2);
        x.bin(3, 1, -7);
        x.part(0, 0, 1, 0);
        x.part(0, 1, 1, 0);
        x.move(0, 0, 1);
        int[] due = {3, 1, -7, 1, 0, 2, 2};
        int[] bare = {3, 0, 0, 0, 0, 2, 2};
        for (int what = 0; what <= 6; what++) {
            CHECKS.due("state what " + what, x.state(0, what), due[what]);
        }
        x.lost(0);
        x.close();
        for (int what = 0; what <= 6; what++) {
            CHECKS.due("later, state what " + what, x.state(0, what), bare[what]);
        }
        for (int what : new int[] {-1, 7, MIN, MAX}) {
            CHECKS.noSuch("state what " + what, () -> x.state(0, what));
        }
    }

    // about(): "2 how many BINS it has on the day that is OPEN (by their MOVES)"
    private static void binsOfAHouseToday() {
        BinRounds x = houses(2);
        CHECKS.due("none", x.about(0, 2), 0);
        x.bin(0, 0, 7);
        x.bin(3, 0, 8);
        x.lost(0);
        x.part(1, 1, 5, 0);
        x.move(0, 1, 1);
        CHECKS.due("two, one without mark", x.about(0, 2), 2);
        CHECKS.due("a part is no bin", x.about(1, 2), 0);
        x.close();
        CHECKS.due("one has moved today", x.about(0, 2), 1);
        CHECKS.due("to this one", x.about(1, 2), 1);
    }
}
