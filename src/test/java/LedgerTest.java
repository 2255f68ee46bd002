import java.lang.reflect.InvocationTargetException;
import java.lang.reflect.Method;
import java.util.ArrayList;
import java.util.Arrays;
import java.util.HashMap;
import java.util.List;
import java.util.Map;

/**
 * Long runs of calls, drawn by a fixed seed, on BinRounds and on Ledger: every answer and every
 * exception has to be the same, for right and for wrong arguments.
 */
final class LedgerTest {
    private static final Checks CHECKS = new Checks();
    private static final int RUNS = 600;
    private static final int CALLS = 512;
    private static final int[] WILD = {
        Integer.MIN_VALUE, Integer.MAX_VALUE, -2, -1, 0, 1, 3, 4, 5, 99, 100, 499, 500, 699, 700, 1000, 1001, 100000, 100001,
        200000, 200001, 1000000, 1000001,
    };

    // Each call with what its arguments are: see argument(). A number before it: how often it is drawn.
    private static final String[] CALLS_OF_A_DAY = {
        "1 street", "2 round street group weekday weeks", "3 holiday day on", "2 when street group week",
        "1 house street", "3 bin kind house mark", "4 mark bin mark", "2 lost bin", "4 move bin house day",
        "9 part bin house weight day", "1 cart limit", "3 table kind money money", "2 terms money tolerance",
        "3 band house bands", "40 tip cart mark grams", "10 wrong tip", "5 gate cart halves", "9 close",
        "14 claim tip bin", "8 weigh tip grams", "8 look tip what", "5 charge tip", "5 share tip house",
        "5 charged house", "3 bill house", "3 pay house sum", "4 middle bin", "4 fill cart street group",
        "3 due bin", "6 load cart what", "3 about house what", "4 state bin what", "4 count what",
    };
    private static final String[] CALLS_AT_FIRST = {
        "3 street", "6 round street group weekday weeks", "8 house street", "12 bin kind house mark", "3 cart limit",
        "9 part bin house weight day", "6 table kind money money", "2 terms money tolerance", "3 holiday day on",
    };

    private static final Map<String, Method> REAL = methods(BinRounds.class);
    private static final Map<String, Method> PLAIN = methods(Ledger.class);
    private static long seed = 20261119;

    public static void main(String[] args) throws IllegalAccessException {
        List<String> first = drawn(CALLS_AT_FIRST);
        List<String> day = drawn(CALLS_OF_A_DAY);
        for (int run = 0; run < RUNS; run++) {
            BinRounds real = new BinRounds();
            Ledger plain = new Ledger();
            int quiet = 20 + draw(60);
            boolean same = true;
            for (int i = 0; i < CALLS && same; i++) {
                same = compare(run, real, plain, i < quiet ? pick(first) : pick(day));
            }
            if (same) {
                compareAll(run, real, plain);
            }
        }
        CHECKS.end("LedgerTest");
    }

    private static Map<String, Method> methods(Class<?> c) {
        Map<String, Method> all = new HashMap<>();
        for (Method m : c.getDeclaredMethods()) {
            if (java.lang.reflect.Modifier.isPublic(m.getModifiers())) {
                m.setAccessible(true);
                all.put(m.getName(), m);
            }
        }
        return all;
    }

    private static List<String> drawn(String[] told) {
        List<String> all = new ArrayList<>();
        for (String t : told) {
            int at = t.indexOf(' ');
            for (int i = 0; i < Integer.parseInt(t.substring(0, at)); i++) {
                all.add(t.substring(at + 1));
            }
        }
        return all;
    }

    private static int draw(int below) {
        seed = seed * 6364136223846793005L + 1442695040888963407L;
        return (int) ((seed >>> 33) % below);
    }

    private static String pick(List<String> all) {
        return all.get(draw(all.size()));
    }

    private static boolean compare(int run, BinRounds real, Ledger plain, String told) throws IllegalAccessException {
        String[] words = told.split(" ");
        Object[] given = new Object[words.length - 1];
        for (int i = 1; i < words.length; i++) {
            given[i - 1] = argument(words[i], real);
        }
        return compareCall(run, real, plain, words[0], given);
    }

    private static boolean compareCall(int run, BinRounds real, Ledger plain, String name, Object... given)
            throws IllegalAccessException {
        Object got = answer(REAL.get(name), real, given);
        Object want = answer(PLAIN.get(name), plain, given);
        boolean same = got == null ? want == null : got.equals(want);
        CHECKS.tell(same, "run " + run + ": " + name + Arrays.toString(given) + " answered " + got + ", due is " + want);
        return same;
    }

    private static Object answer(Method m, Object x, Object[] given) throws IllegalAccessException {
        try {
            return m.invoke(x, given);
        } catch (InvocationTargetException e) {
            boolean own = x instanceof Ledger || Checks.isThrownByProgram(e.getCause());
            return (own ? "throws " : "the library throws ") + e.getCause().getClass().getName();
        }
    }

    private static Object argument(String word, BinRounds x) {
        if (word.equals("on")) {
            return draw(3) > 0;
        }
        if (word.equals("sum")) {
            return (long) numberOf(word, x);
        }
        return draw(60) == 0 ? WILD[draw(WILD.length)] : numberOf(word, x);
    }

    private static int numberOf(String word, BinRounds x) {
        switch (word) {
            case "street": return below(x.count(1));
            case "house": return below(x.count(2));
            case "bin": return below(x.count(3));
            case "cart": return below(x.count(4));
            case "tip": return draw(2) == 0 ? below(x.count(5)) : (int) Math.max(0, x.count(5) - 1 - draw(12));
            case "group": return draw(3);
            case "weekday": return draw(5);
            case "weeks": return draw(6) == 0 ? 0 : 1 + draw(3);
            case "week": return (int) x.count(0) / 7 + draw(5) - 1;
            case "day": return (int) x.count(0) + (draw(12) - 1) * draw(3);
            case "kind": return draw(5);
            case "mark": return draw(7) - 1;
            case "weight": return draw(4) == 0 ? 0 : draw(2) == 0 ? 1 + draw(3) : draw(1001);
            case "limit": return draw(2) == 0 ? draw(100) : draw(100001);
            case "money": return draw(2) == 0 ? draw(50) : draw(100001);
            case "tolerance": return draw(4) == 0 ? draw(1001) : draw(200);
            case "bands": return 1 + draw(draw(9) == 0 ? 1000 : 3);
            case "grams": return draw(5) < 2 ? BinRounds.NONE : draw(9) == 0 ? draw(200001) : draw(6000);
            case "halves": return draw(2) == 0 ? draw(40) : draw(400);
            case "sum": return draw(9) == 0 ? 999999998 + draw(5) : draw(5000) - 1;
            default: return draw(11);
        }
    }

    private static int below(long size) {
        return size == 0 ? 0 : draw((int) size);
    }

    private static void compareAll(int run, BinRounds real, Ledger plain) throws IllegalAccessException {
        for (int what = -1; what < 11; what++) {
            compareCall(run, real, plain, "count", what);
            compareRow(run, real, plain, "look", 5, what);
            compareRow(run, real, plain, "load", 4, what);
            compareRow(run, real, plain, "about", 2, what);
            compareRow(run, real, plain, "state", 3, what);
        }
        for (int i = -1; i <= real.count(5); i++) {
            compareCall(run, real, plain, "charge", i);
        }
        for (int i = -1; i <= real.count(2); i++) {
            compareCall(run, real, plain, "charged", i);
        }
        for (int i = -1; i <= real.count(3); i++) {
            compareCall(run, real, plain, "middle", i);
            compareCall(run, real, plain, "due", i);
        }
    }

    private static void compareRow(int run, BinRounds real, Ledger plain, String name, int counted, int what)
            throws IllegalAccessException {
        for (int i = -1; i <= real.count(counted); i++) {
            compareCall(run, real, plain, name, i, what);
        }
    }
}
