/** Counts and prints the answers that are not the ones that are due. */
final class Due {
    interface Call {
        long answer();
    }

    private static int looked = 0;
    private static int wrong = 0;
    private static int sentences = 0;
    private static String sentence = "";

    private Due() {
    }

    /** The answers that are looked at from here on are those that these words of the document name. */
    static void sentence(String words) {
        sentences++;
        sentence = words + ": ";
    }

    static void is(String what, String got, String due) {
        looked++;
        if (!got.equals(due)) {
            fail(what + " answered \"" + got + "\", due is \"" + due + "\"");
        }
    }

    static void is(String what, long got, long due) {
        looked++;
        if (got != due) {
            fail(what + " answered " + got + ", due is " + due);
        }
    }

    static void is(String what, boolean got, boolean due) {
        is(what, got ? 1 : 0, due ? 1 : 0);
    }

    /** The very class counts: the machine's own exceptions are classes below those of the document. */
    static void isThrown(String what, Class<?> due, Call call) {
        looked++;
        Class<?> got = null;
        try {
            call.answer();
        } catch (RuntimeException e) {
            got = e.getClass();
        }
        if (got != due) {
            fail(what + " threw " + got + ", due is " + due);
        }
    }

    static void noIndex(String what, Call call) {
        isThrown(what, IndexOutOfBoundsException.class, call);
    }

    static void noArgument(String what, Call call) {
        isThrown(what, IllegalArgumentException.class, call);
    }

    static void noState(String what, Call call) {
        isThrown(what, IllegalStateException.class, call);
    }

    static void fail(String what) {
        wrong++;
        if (wrong <= 40) {
            System.out.println(sentence + what);
        }
    }

    static void end(String test) {
        String told = sentences == 0 ? "" : sentences + " sentences, ";
        System.out.println(test + ": " + told + looked + " answers looked at, " + wrong + " not as due");
        if (wrong > 0 || looked == 0) {
            System.exit(1);
        }
    }
}
