import java.util.function.Supplier;

/** What the tests share: counts the wrong answers, and ends a test with exit code 1 if there was one. */
final class Check {
    static final Class<?> INDEX = IndexOutOfBoundsException.class;
    static final Class<?> ARGUMENT = IllegalArgumentException.class;
    static final Class<?> STATE = IllegalStateException.class;

    private int wrong = 0;
    private int asked = 0;
    private int sentences = 0;
    /** The sentence of the document that is tested, told ahead of what is wrong. */
    private String sentence = "";

    interface Call {
        void on(RopeTackle tackle);
    }

    interface NumberCall {
        void on(RopeTackle tackle, int number);
    }

    /**
     * Runs the test of one sentence, in the document's words: the method stands ahead of a colon,
     * " .. " for words that are left out, and in parentheses at the end what only the test says.
     */
    void sentence(String words, Runnable test) {
        int before = asked;
        sentence = "\"" + words + "\": ";
        test.run();
        holds("something is asked", asked > before);
        sentence = "";
        sentences++;
    }

    void same(String what, long got, long due) {
        asked++;
        if (got != due) {
            tell(what + " answered " + got + ", due is " + due);
        }
    }

    void sameDouble(String what, double got, double due) {
        asked++;
        if (Double.compare(got, due) != 0) {
            tell(what + " answered " + got + ", due is " + due);
        }
    }

    void holds(String what, boolean got) {
        asked++;
        if (!got) {
            tell(what + " does not hold");
        }
    }

    /** The call throws exactly this exception, and changes nothing that the digest tells of. */
    void refuses(RopeTackle tackle, String what, Class<?> due, Runnable call) {
        long before = tackle.digest();
        throwsJust(what, due, call);
        if (tackle.digest() != before) {
            tell(what + " threw, but changed the state");
        }
    }

    private void throwsJust(String what, Class<?> due, Runnable call) {
        asked++;
        Class<?> got = null;
        try {
            call.run();
        } catch (RuntimeException e) {
            got = e.getClass();
        }
        if (got != due) {
            tell(what + " threw " + got + ", due is " + due);
        }
    }

    /** The call throws exactly this exception, and nothing that can be seen has changed then. */
    void refusesOn(Supplier<RopeTackle> maker, String what, Class<?> due, Call call) {
        changesNothing(maker, what, tackle -> throwsJust(what, due, () -> call.on(tackle)));
    }

    /** The call is refused whatever state the tackle is in. */
    void refusesAlways(String what, Class<?> due, Call call) {
        for (Supplier<RopeTackle> maker : Tackles.UNLIKE) {
            refusesOn(maker, what, due, call);
        }
    }

    /** Refuses the first numbers that are out of a range, on both sides, and the farthest ones. */
    void refusesBeyond(int least, int most, String what, Class<?> due, NumberCall call) {
        for (int number : new int[] {least - 1, most + 1, Integer.MIN_VALUE, Integer.MAX_VALUE}) {
            refusesAlways(what + " with " + number, due, tackle -> call.on(tackle, number));
        }
    }

    /** Of two tackles that were made alike, the one that was called answers as the other one. */
    void changesNothing(Supplier<RopeTackle> maker, String what, Call call) {
        asked++;
        RopeTackle called = maker.get();
        call.on(called);
        if (!Tackles.trace(called).equals(Tackles.trace(maker.get()))) {
            tell(what + " changed something");
        }
    }

    void tell(String text) {
        wrong++;
        System.out.println(sentence + text);
    }

    void end() {
        String of = sentences == 0 ? "" : " of " + sentences + " sentences";
        System.out.println(wrong == 0 ? asked + " answers" + of + " are as due" : wrong + " answers are wrong");
        if (wrong != 0) {
            System.exit(1);
        }
    }

    static void write(RopeTackle tackle, String text) {
        tackle.clearText();
        for (int i = 0; i < text.length(); i++) {
            tackle.append(text.charAt(i));
        }
    }

    /** A tackle that is reeved, with its weights, as a text tells; four states are saved. */
    static RopeTackle reeved(String text, int friction, int length) {
        RopeTackle tackle = new RopeTackle();
        tackle.setLength(300000);
        tackle.setFriction(friction);
        write(tackle, text);
        if (tackle.parse() < 0) {
            throw new AssertionError("the test's own text is wrong: " + text);
        }
        tackle.setLength(length);
        return tackle;
    }
}
