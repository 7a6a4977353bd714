/** What the tests share: counts the wrong answers, and ends a test with exit code 1 if there was one. */
final class Check {
    static final Class<?> INDEX = IndexOutOfBoundsException.class;
    static final Class<?> ARGUMENT = IllegalArgumentException.class;
    static final Class<?> STATE = IllegalStateException.class;

    private int wrong = 0;
    private int asked = 0;

    void same(String what, long got, long due) {
        asked++;
        if (got != due) {
            tell(what + " answered " + got + ", due is " + due);
        }
    }

    void sameDouble(String what, double got, double due) {
        asked++;
        if (Double.compare(got, due) != 0) {
            tell(what + " answered " + got + ", due is " + due);
        }
    }

    void holds(String what, boolean got) {
        asked++;
        if (!got) {
            tell(what + " does not hold");
        }
    }

    /** The call throws exactly this exception, and changes nothing. */
    void refuses(RopeTackle tackle, String what, Class<?> due, Runnable call) {
        asked++;
        long before = tackle.digest();
        Class<?> got = null;
        try {
            call.run();
        } catch (RuntimeException e) {
            got = e.getClass();
        }
        if (got != due) {
            tell(what + " threw " + got + ", due is " + due);
        }
        if (tackle.digest() != before) {
            tell(what + " threw, but changed the state");
        }
    }

    void tell(String text) {
        wrong++;
        System.out.println(text);
    }

    void end() {
        System.out.println(wrong == 0 ? asked + " answers are as due" : wrong + " answers are wrong");
        if (wrong != 0) {
            System.exit(1);
        }
    }

    static void write(RopeTackle tackle, String text) {
        tackle.clearText();
        for (int i = 0; i < text.length(); i++) {
            tackle.append(text.charAt(i));
        }
    }

    /** A tackle that is reeved, with its weights, as a text tells; four states are saved. */
    static RopeTackle reeved(String text, int friction, int length) {
        RopeTackle tackle = new RopeTackle();
        tackle.setLength(300000);
        tackle.setFriction(friction);
        write(tackle, text);
        if (tackle.parse() < 0) {
            throw new AssertionError("the test's own text is wrong: " + text);
        }
        tackle.setLength(length);
        return tackle;
    }
}
