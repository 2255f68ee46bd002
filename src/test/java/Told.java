import java.util.ArrayList;
import java.util.List;
import java.util.function.Supplier;
import java.util.function.ToLongFunction;

/**
 * All that a town tells, so that two towns can be put side by side. Towns are made anew as questions
 * go on, so that none is asked more than the 512 calls that the document promises.
 */
final class Told {
    private static final int QUESTIONS_OF_A_TOWN = 100;

    private record Question(String name, ToLongFunction<BinRounds> ask) { }

    private Told() {
    }

    /** What is told by the calls that change nothing. */
    static List<String> now(Supplier<BinRounds> town) {
        List<Question> questions = questions(town.get());
        List<String> told = new ArrayList<>();
        BinRounds asked = null;
        for (int i = 0; i < questions.size(); i++) {
            if (i % QUESTIONS_OF_A_TOWN == 0) {
                asked = town.get();
            }
            told.add(answer(questions.get(i), asked));
        }
        return told;
    }

    /** What is told while the town goes on, and when it has gone on: here shows what no question asks for. */
    static List<String> later(Supplier<BinRounds> town) {
        List<String> told = goOn(town.get());
        told.addAll(now(() -> {
            BinRounds x = town.get();
            goOn(x);
            return x;
        }));
        return told;
    }

    private static String answer(Question question, BinRounds x) {
        try {
            return question.name + " = " + question.ask.applyAsLong(x);
        } catch (RuntimeException e) {
            return question.name + " throws " + e.getClass().getName();
        }
    }

    // ---- the questions ----

    private static List<Question> questions(BinRounds x) {
        List<Question> all = new ArrayList<>();
        for (int i = -1; i <= 10; i++) {
            int what = i;
            add(all, "count " + what, y -> y.count(what));
        }
        for (int street = 0; street < x.count(1); street++) {
            askStreet(all, street, (int) x.count(4));
        }
        for (int house = 0; house < x.count(2); house++) {
            askHouse(all, house);
        }
        for (int bin = 0; bin < x.count(3); bin++) {
            askBin(all, bin);
        }
        for (int i = 0; i < x.count(4); i++) {
            int cart = i;
            askWhats(all, "load " + cart, 5, (y, what) -> y.load(cart, what));
        }
        for (int tip = 0; tip < x.count(5); tip++) {
            askTip(all, tip, (int) x.count(2));
        }
        return all;
    }

    private static void add(List<Question> all, String name, ToLongFunction<BinRounds> ask) {
        all.add(new Question(name, ask));
    }

    private interface What {
        long ask(BinRounds x, int what);
    }

    private static void askWhats(List<Question> all, String name, int size, What asked) {
        for (int i = 0; i < size; i++) {
            int what = i;
            add(all, name + " " + what, y -> asked.ask(y, what));
        }
    }

    private static void askStreet(List<Question> all, int street, int carts) {
        for (int g = 0; g < 3; g++) {
            int group = g;
            askWhats(all, "when " + street + " " + group, 100, (y, week) -> y.when(street, group, week));
            askWhats(all, "fill " + street + " " + group + " of cart", carts, (y, cart) -> y.fill(cart, street, group));
        }
    }

    private static void askHouse(List<Question> all, int house) {
        askWhats(all, "about " + house, 3, (y, what) -> y.about(house, what));
        add(all, "charged " + house, y -> y.charged(house));
    }

    private static void askBin(List<Question> all, int bin) {
        askWhats(all, "state " + bin, 7, (y, what) -> y.state(bin, what));
        add(all, "due " + bin, y -> y.due(bin));
        add(all, "middle " + bin, y -> y.middle(bin));
    }

    private static void askTip(List<Question> all, int tip, int houses) {
        askWhats(all, "look " + tip, 10, (y, what) -> y.look(tip, what));
        add(all, "charge " + tip, y -> y.charge(tip));
        askWhats(all, "share " + tip + " of", houses, (y, house) -> y.share(tip, house));
    }

    // ---- how a town goes on ----

    /** Some hundred calls: tables, price, holidays, moves to come, bills and sums paid are told by them alone. */
    private static List<String> goOn(BinRounds x) {
        List<Question> calls = new ArrayList<>();
        int open = (int) x.count(0);
        int tips = (int) x.count(5);
        payForAll(calls, (int) x.count(2));
        tipAll(calls, (int) x.count(4));
        for (int i = 0; i < 12; i++) {
            int tip = tips + i - 6;
            add(calls, "wrong " + tip, y -> y.wrong(tip) ? 1 : 0);
        }
        for (int i = 0; i < 14; i++) {
            int day = i == 13 ? 699 : open + i;
            add(calls, "holiday " + day, y -> y.holiday(day, day % 3 == 0) ? 1 : 0);
        }
        add(calls, "close", BinRounds::close);
        for (int i = 0; i < Math.min(tips, 16); i++) {
            int tip = i;
            add(calls, "claim " + tip, y -> y.claim(tip, 0));
            add(calls, "weigh " + tip, y -> y.weigh(tip, 1600));
        }
        moveAll(calls, open + 1);
        makeMore(calls);
        add(calls, "close", BinRounds::close);
        List<String> told = new ArrayList<>();
        for (Question call : calls) {
            told.add(answer(call, x));
        }
        return told;
    }


    private static void payForAll(List<Question> calls, int houses) {
        for (int h = 0; h < Math.min(houses, 4); h++) {
            int house = h == 3 ? houses - 1 : h;
            add(calls, "band " + house, y -> y.band(house, 1));
            add(calls, "bill " + house, y -> y.bill(house));
            add(calls, "pay " + house, y -> y.pay(house, 7));
        }
    }

    private static void tipAll(List<Question> calls, int carts) {
        for (int m = 10; m <= 16; m++) {
            int mark = m;
            int cart = m % carts;
            add(calls, "tip " + mark, y -> y.tip(cart, mark, 1300));
            add(calls, "tip not weighed " + mark, y -> y.tip(cart, mark, BinRounds.NONE));
        }
    }

    private static void moveAll(List<Question> calls, int day) {
        for (int b = 0; b < 8; b++) {
            int bin = b;
            add(calls, "move " + bin, y -> y.move(bin, 2, day + bin % 3));
            add(calls, "part " + bin, y -> y.part(bin, 1, 5, day));
            add(calls, "mark " + bin, y -> y.mark(bin, 10 + bin % 2));
        }
        add(calls, "lost 8", y -> y.lost(8) ? 1 : 0);
        add(calls, "lost 7", y -> y.lost(7) ? 1 : 0);
    }

    private static void makeMore(List<Question> calls) {
        add(calls, "street", BinRounds::street);
        add(calls, "house", y -> y.house(0));
        add(calls, "bin", y -> y.bin(1, 0, 10));
        add(calls, "cart", y -> y.cart(3));
    }
}
