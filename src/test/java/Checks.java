/** Counts answers that are due and those that are not, and ends a test with exit code 1 if there was one. */
final class Checks {
    private int passed = 0;
    private int failed = 0;

    void due(String call, long got, long want) {
        tell(got == want, call + " answered " + got + ", due is " + want);
    }

    void due(String call, boolean got, boolean want) {
        tell(got == want, call + " answered " + got + ", due is " + want);
    }

    /** The call has to throw just this exception, none of a class below it, and the program itself has to throw it. */
    void refuses(String call, Class<? extends RuntimeException> want, Runnable run) {
        Class<?> got = null;
        boolean own = true;
        try {
            run.run();
        } catch (RuntimeException e) {
            got = e.getClass();
            own = isThrownByProgram(e);
        }
        tell(got == want && own, call + " threw " + got + (own ? "" : " in the library") + ", due is " + want);
    }

    /** False where the library threw: a list, say, whose size was not asked. */
    static boolean isThrownByProgram(Throwable e) {
        StackTraceElement[] calls = e.getStackTrace();
        return calls.length > 0 && calls[0].getClassName().split("\\$")[0].equals("BinRounds");
    }

    void noIndex(String call, Runnable run) {
        refuses(call, IndexOutOfBoundsException.class, run);
    }

    void noNumber(String call, Runnable run) {
        refuses(call, IllegalArgumentException.class, run);
    }

    void noRoom(String call, Runnable run) {
        refuses(call, UnsupportedOperationException.class, run);
    }

    void noSuch(String call, Runnable run) {
        refuses(call, java.util.NoSuchElementException.class, run);
    }

    /** Of two tellings that differ the first line that does is shown. */
    void same(String name, java.util.List<String> got, java.util.List<String> want) {
        int at = 0;
        while (at < got.size() && at < want.size() && got.get(at).equals(want.get(at))) {
            at++;
        }
        String gotLine = at < got.size() ? got.get(at) : "the end";
        String wantLine = at < want.size() ? want.get(at) : "the end";
        tell(got.equals(want), name + ": told is " + gotLine + ", due is " + wantLine);
    }

    void tell(boolean isRight, String otherwise) {
        if (isRight) {
            passed++;
        } else {
            failed++;
            System.out.println(otherwise);
        }
    }

    void end(String name) {
        System.out.println(name + ": " + passed + " answers as due, " + failed + " not");
        if (failed > 0 || passed == 0) {
            System.exit(1);
        }
    }
}
