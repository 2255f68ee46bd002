/** Promises 1 to 5 and 30: a new object, streets, rounds, holidays, when, due. */
final class RoundsTest {
    private static final Checks CHECKS = new Checks();
    private static final int NONE = BinRounds.NONE;
    private static final int LATE = BinRounds.LATE;

    public static void main(String[] args) {
        promise1NewObject();
        promise2Street();
        promise3Round();
        promise4Holiday();
        promise5When();
        promise5Holidays();
        promise30Due();
        promise30FollowsTheHouse();
        promise30AtTheEnd();
        CHECKS.end("RoundsTest");
    }

    private static void promise1NewObject() {
        BinRounds x = new BinRounds();
        for (int what = 0; what <= 9; what++) {
            CHECKS.due("new count(" + what + ")", x.count(what), 0);
        }
        CHECKS.noIndex("new when(0, 0, 0)", () -> x.when(0, 0, 0));
        CHECKS.noIndex("new about(0, 0)", () -> x.about(0, 0));
        CHECKS.noIndex("new state(0, 0)", () -> x.state(0, 0));
        CHECKS.noIndex("new load(0, 0)", () -> x.load(0, 0));
        CHECKS.noIndex("new look(0, 0)", () -> x.look(0, 0));
        CHECKS.due("new close()", x.close(), 0);
        CHECKS.due("another object's day", new BinRounds().count(0), 0);
    }

    private static void promise2Street() {
        BinRounds x = new BinRounds();
        for (int i = 0; i < 10; i++) {
            CHECKS.due("street()", x.street(), i);
        }
        CHECKS.noRoom("street() number 11", x::street);
        CHECKS.due("count(1)", x.count(1), 10);
        CHECKS.due("when() of the last street", x.when(9, 0, 0), NONE);
        CHECKS.noIndex("when() behind it", () -> x.when(10, 0, 0));
    }

    private static void promise3Round() {
        BinRounds x = new BinRounds();
        x.street();
        x.street();
        x.round(0, 0, 0, 3);
        x.round(0, 2, 4, 3);
        CHECKS.due("group 0", x.when(0, 0, 0), 0);
        CHECKS.due("group 1 has none", x.when(0, 1, 0), NONE);
        CHECKS.due("group 2", x.when(0, 2, 0), 4);
        CHECKS.due("the other street has none", x.when(1, 0, 0), NONE);
        x.round(0, 0, 3, 1);
        CHECKS.due("told again, even week", x.when(0, 0, 0), NONE);
        CHECKS.due("told again, odd week", x.when(0, 0, 1), 10);
        x.round(0, 0, 2, 0);
        CHECKS.due("weeks 0", x.when(0, 0, 1), NONE);
        CHECKS.noIndex("street -1", () -> x.round(-1, 0, 0, 0));
        CHECKS.noIndex("street 2, and no group", () -> x.round(2, 3, 0, 0));
        CHECKS.noNumber("group -1", () -> x.round(0, -1, 0, 0));
        CHECKS.noNumber("group 3", () -> x.round(0, 3, 0, 0));
        CHECKS.noNumber("weekday -1", () -> x.round(0, 0, -1, 1));
        CHECKS.noNumber("weekday 5", () -> x.round(0, 0, 5, 1));
        CHECKS.noNumber("weekday 5, weeks 0", () -> x.round(0, 0, 5, 0));
        CHECKS.noNumber("weeks -1", () -> x.round(0, 0, 0, -1));
        CHECKS.noNumber("weeks 4", () -> x.round(0, 2, 0, 4));
        CHECKS.due("nothing has changed", x.when(0, 2, 1), 11);
    }

    private static void promise4Holiday() {
        BinRounds x = new BinRounds();
        CHECKS.due("no holiday before", x.holiday(3, false), false);
        CHECKS.due("is one now", x.holiday(3, true), true);
        CHECKS.due("is one already", x.holiday(3, true), false);
        CHECKS.due("is none now", x.holiday(3, false), true);
        CHECKS.due("the first day", x.holiday(0, true), true);
        CHECKS.due("the last day", x.holiday(699, true), true);
        CHECKS.noNumber("day 700", () -> x.holiday(700, true));
        CHECKS.noNumber("day -1", () -> x.holiday(-1, true));
        CHECKS.noNumber("a great day", () -> x.holiday(Integer.MAX_VALUE, false));
        x.close();
        x.close();
        CHECKS.noNumber("a day that is closed", () -> x.holiday(1, true));
        CHECKS.due("the day that is open", x.holiday(2, true), true);
    }

    private static void promise5When() {
        BinRounds x = new BinRounds();
        x.street();
        x.round(0, 0, 2, 3);
        x.round(0, 1, 0, 1);
        x.round(0, 2, 4, 2);
        CHECKS.due("all weeks", x.when(0, 0, 0), 2);
        CHECKS.due("all weeks", x.when(0, 0, 1), 9);
        CHECKS.due("odd weeks, even", x.when(0, 1, 98), NONE);
        CHECKS.due("odd weeks, odd", x.when(0, 1, 99), 693);
        CHECKS.due("even weeks, even", x.when(0, 2, 98), 690);
        CHECKS.due("even weeks, odd", x.when(0, 2, 99), NONE);
        CHECKS.noIndex("street 1, week 100", () -> x.when(1, 0, 100));
        CHECKS.noIndex("street -1", () -> x.when(-1, 0, 0));
        CHECKS.noNumber("group 3", () -> x.when(0, 3, 0));
        CHECKS.noNumber("group -1", () -> x.when(0, -1, 0));
        CHECKS.noNumber("week 100", () -> x.when(0, 0, 100));
        CHECKS.noNumber("week -1", () -> x.when(0, 0, -1));
        for (int i = 0; i < 15; i++) {
            x.close();
        }
        CHECKS.due("a week that is over", x.when(0, 0, 0), 2);
    }

    private static void promise5Holidays() {
        BinRounds x = new BinRounds();
        x.street();
        x.round(0, 0, 0, 3);
        x.round(0, 1, 2, 3);
        x.round(0, 2, 4, 3);
        x.holiday(7, true);
        CHECKS.due("weekday 0 is moved", x.when(0, 0, 1), 8);
        CHECKS.due("weekday 2 is moved", x.when(0, 1, 1), 10);
        CHECKS.due("weekday 4 is on day 5", x.when(0, 2, 1), 12);
        CHECKS.due("the week before is not moved", x.when(0, 2, 0), 4);
        x.holiday(11, true);
        CHECKS.due("weekday 4 would be on day 6", x.when(0, 2, 1), LATE);
        CHECKS.due("weekday 2 is before that holiday", x.when(0, 1, 1), 10);
        x.holiday(8, true);
        x.holiday(9, true);
        CHECKS.due("weekday 0 behind three", x.when(0, 0, 1), 10);
        CHECKS.due("weekday 2 behind four", x.when(0, 1, 1), LATE);
        x.holiday(10, true);
        CHECKS.due("weekday 0 on day 5", x.when(0, 0, 1), 12);
        x.holiday(12, true);
        CHECKS.due("weekday 0 would be on day 6", x.when(0, 0, 1), LATE);
        x.holiday(13, true);
        CHECKS.due("a week of holidays", x.when(0, 0, 1), LATE);
        x.holiday(7, false);
        CHECKS.due("day 0 is free again", x.when(0, 0, 1), 7);
        x.round(0, 0, 0, 2);
        CHECKS.due("no round, not late", x.when(0, 0, 1), NONE);
        x.holiday(0, true);
        CHECKS.due("day 0 is a holiday", x.when(0, 1, 0), 3);
        x.holiday(6, true);
        CHECKS.due("the week's last day moves nothing", x.when(0, 2, 0), 5);
    }

    private static void promise30Due() {
        BinRounds x = new BinRounds();
        x.street();
        x.house(0);
        x.bin(0, 0, 1);
        x.bin(1, 0, 2);
        x.bin(2, 0, 3);
        x.bin(3, 0, 4);
        x.bin(4, 0, 5);
        CHECKS.due("no round", x.due(0), NONE);
        x.round(0, 0, 0, 3);
        x.round(0, 1, 3, 1);
        x.round(0, 2, 4, 2);
        CHECKS.due("today", x.due(0), 0);
        CHECKS.due("green, next week", x.due(1), 10);
        CHECKS.due("paper, this week", x.due(2), 4);
        CHECKS.due("shared goes with the rest", x.due(3), 0);
        CHECKS.due("sack goes with the rest", x.due(4), 0);
        x.close();
        CHECKS.due("day 0 is over", x.due(0), 7);
        x.holiday(2, true);
        x.holiday(3, true);
        CHECKS.due("late, and none in the week behind it", x.due(2), 18);
        for (int day = 14; day < 21; day++) {
            x.holiday(day, true);
        }
        CHECKS.due("late twice, then too far off", x.due(2), NONE);
        CHECKS.due("the week of holidays is left out", x.due(1), 10);
        CHECKS.noIndex("bin 5", () -> x.due(5));
        CHECKS.noIndex("bin -1", () -> x.due(-1));
        for (int i = 0; i < 6; i++) {
            x.close();
        }
        CHECKS.due("one week later it is the third behind", x.due(2), 32);
    }

    private static void promise30FollowsTheHouse() {
        BinRounds x = new BinRounds();
        x.street();
        x.street();
        x.round(0, 0, 1, 3);
        x.round(1, 0, 3, 3);
        x.house(0);
        x.house(1);
        x.bin(0, 0, 1);
        x.move(0, 1, 1);
        CHECKS.due("the house of today", x.due(0), 1);
        x.close();
        CHECKS.due("the other house from today on", x.due(0), 3);
    }

    private static void promise30AtTheEnd() {
        BinRounds x = new BinRounds();
        x.street();
        x.round(0, 0, 0, 2);
        x.round(0, 1, 1, 1);
        x.house(0);
        x.bin(0, 0, 1);
        x.bin(1, 0, 1);
        x.holiday(694, true);
        for (int i = 0; i < 699; i++) {
            x.close();
        }
        CHECKS.due("week 100 has no holidays", x.due(0), 700);
        CHECKS.due("week 101, too", x.due(1), 708);
        x.holiday(699, true);
        CHECKS.due("week 100 still has none", x.due(0), 700);
    }
}
