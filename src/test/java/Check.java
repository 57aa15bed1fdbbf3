/** What every test of the project uses: it compares answers, counts and prints what is wrong. */
final class Check {
    private static int right = 0;
    private static int wrong = 0;
    /** What a complaint begins with: the sentence that is tried, if one is. */
    private static String about = "";

    /** A call of the class, whose answer does not matter. */
    interface Call {
        void run();
    }

    private Check() {
    }

    static void about(String sentence) {
        about = sentence;
    }

    /** How many answers have been looked at. */
    static int made() {
        return right + wrong;
    }

    static void equal(String what, long want, long got) {
        tell(want == got, what + " answered " + got + ", due is " + want);
    }

    static void isTrue(String what, boolean holds) {
        tell(holds, what);
    }

    /** The class of what is thrown must be just the one that is due. */
    static void throwing(String what, Class<? extends RuntimeException> want, Call call) {
        Class<?> got = null;
        try {
            call.run();
        } catch (RuntimeException thrown) {
            got = thrown.getClass();
        }
        tell(got == want, what + " threw " + got + ", due is " + want);
    }

    /** A call that throws changes nothing, neither the state nor the buffer. */
    static void refused(PotLabels bureau, String what, Class<? extends RuntimeException> want, Call call) {
        long before = bureau.digest();
        throwing(what, want, call);
        equal("the digest behind " + what, before, bureau.digest());
    }

    static void noPot(PotLabels bureau, String what, Call call) {
        refused(bureau, what, IndexOutOfBoundsException.class, call);
    }

    static void noArgument(PotLabels bureau, String what, Call call) {
        refused(bureau, what, IllegalArgumentException.class, call);
    }

    static void noState(PotLabels bureau, String what, Call call) {
        refused(bureau, what, IllegalStateException.class, call);
    }

    /** Saves a state, and undo restores all that the digest tells of. */
    static void undoable(PotLabels bureau, String what, Call call) {
        long before = bureau.digest();
        int saved = bureau.count(7);
        call.run();
        equal("saved states behind " + what, Math.min(saved + 1, 6), bureau.count(7));
        bureau.undo();
        if (saved < 6) {
            equal("the digest behind undo of " + what, before, bureau.digest());
        }
        call.run();
    }

    static void type(PotLabels bureau, String text) {
        for (int i = 0; i < text.length(); i++) {
            bureau.append(text.charAt(i));
        }
    }

    /** Loads pots as a text, as in "0=123;7=999". */
    static void pots(PotLabels bureau, String text) {
        bureau.clearBuffer();
        type(bureau, text);
        bureau.load();
    }

    static int colour(PotLabels bureau, int pot) {
        return 100 * bureau.potOf(pot, 0) + 10 * bureau.potOf(pot, 1) + bureau.potOf(pot, 2);
    }

    static void finish() {
        System.out.println("checks: " + right + " right, " + wrong + " wrong");
        if (wrong != 0) {
            System.exit(1);
        }
    }

    private static void tell(boolean holds, String complaint) {
        if (holds) {
            right++;
        } else {
            wrong++;
            if (wrong <= 50) {
                System.out.println("  wrong: " + about + complaint);
            }
        }
    }
}
