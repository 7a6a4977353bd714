import java.util.Random;

/** All promises: long runs of calls, always the same ones, answered by the program as by the model. */
final class ModelTest {
    private static final int RUNS = 130;
    /** A tackle is used for at most 512 calls; the longest step, a text, has 41 of them. */
    private static final int CALLS = 470;
    private static final Check check = new Check();

    private interface Call {
        Object answer();
    }

    private final Random random;
    private final RopeTackle tackle = new RopeTackle();
    private final Model model = new Model();
    private int calls = 0;

    private ModelTest(long seed) {
        random = new Random(seed);
    }

    public static void main(String[] args) {
        for (int run = 0; run < RUNS; run++) {
            ModelTest one = new ModelTest(run);
            one.begin();
            while (one.calls < CALLS) {
                one.step("run " + run + ", call " + one.calls + ": ");
            }
        }
        texts();
        check.end();
    }

    /** Most runs need more rope than a new tackle has. */
    private void begin() {
        if (random.nextInt(4) > 0) {
            both("begin: ", "setLength", () -> tackle.setLength(300000), () -> model.setLength(300000));
        }
    }

    private void both(String where, String name, Call program, Call due) {
        calls++;
        Object got = answer(program);
        Object want = answer(due);
        check.holds(where + name + " answered " + got + ", due is " + want + ": it", got.equals(want));
    }

    private static Object answer(Call call) {
        try {
            return call.answer();
        } catch (RuntimeException e) {
            return e.getClass();
        }
    }

    /** A number in a range, now and then one at its edges or a little beyond. */
    private int number(int least, int most) {
        int kind = random.nextInt(30);
        if (kind == 0) {
            return least - 1;
        }
        if (kind == 1) {
            return most + 1;
        }
        if (kind == 2) {
            return random.nextInt(5) == 0 ? random.nextInt() : most;
        }
        return kind == 3 ? least : least + random.nextInt(most - least + 1);
    }

    /** Small forces and lengths tell more blocks apart than great ones. */
    private int small(int most) {
        int[] bounds = {5, 50, 700, 4000, 40000, most};
        return number(0, Math.min(most, bounds[random.nextInt(bounds.length)]));
    }

    private int index(int count) {
        return number(0, Math.max(0, count - 1));
    }

    private void step(String where) {
        switch (random.nextInt(10)) {
            case 0: case 1: reeve(where); break;
            case 2: case 3: case 4: move(where); break;
            case 5: case 6: ask(where); break;
            case 7: case 8: wonder(where); break;
            default: write(where); break;
        }
        both(where, "digest", () -> tackle.digest(), () -> model.digest());
    }

    private void reeve(String where) {
        int block = number(0, 3);
        int weight = random.nextInt(8) == 0 ? number(0, 50000) : small(4000);
        int friction = number(0, 30);
        int length = random.nextInt(3) > 0 ? number(150000, 300000) : number(1000, 300000);
        int end = number(0, 4);
        switch (random.nextInt(8)) {
            case 0: case 1: both(where, "setWeight", () -> tackle.setWeight(block, weight), () -> model.setWeight(block, weight)); break;
            case 2: both(where, "setFriction", () -> tackle.setFriction(friction), () -> model.setFriction(friction)); break;
            case 3: both(where, "setLength", () -> tackle.setLength(length), () -> model.setLength(length)); break;
            case 4: case 5: both(where, "addPulley", () -> tackle.addPulley(block), () -> model.addPulley(block)); break;
            case 6: both(where, "takePulley", () -> tackle.takePulley(), () -> model.takePulley()); break;
            default: both(where, "setEnd", () -> tackle.setEnd(end), () -> model.setEnd(end)); break;
        }
    }

    private void move(String where) {
        int force = small(1000000);
        int length = small(100000);
        switch (random.nextInt(5)) {
            case 0: case 1: both(where, "haul", () -> tackle.haul(force, length), () -> model.haul(force, length)); break;
            case 2: case 3: both(where, "letOut", () -> tackle.letOut(force, length), () -> model.letOut(force, length)); break;
            default: both(where, "undo", () -> tackle.undo(), () -> model.undo()); break;
        }
    }

    private void ask(String where) {
        int block = number(0, 3);
        int force = small(1000000);
        int what = number(0, 6);
        int index = index(model.value(3));
        int passed = number(0, model.value(5));
        int entry = index(model.value(9));
        boolean hauled = random.nextBoolean();
        switch (random.nextInt(7)) {
            case 0: both(where, "block", () -> tackle.block(block, what), () -> model.block(block, what)); break;
            case 1: both(where, "pulley", () -> tackle.pulley(index), () -> model.pulley(index)); break;
            case 2: both(where, "force", () -> tackle.force(force, passed, hauled), () -> model.force(force, passed, hauled)); break;
            case 3: both(where, "pull", () -> tackle.pull(block, force, hauled), () -> model.pull(block, force, hauled)); break;
            case 4: both(where, "value", () -> tackle.value(what + 4), () -> model.value(what + 4)); break;
            case 5: both(where, "work", () -> tackle.work(hauled), () -> model.work(hauled)); break;
            default: both(where, "entry", () -> tackle.entry(entry, what - 2), () -> model.entry(entry, what - 2)); break;
        }
    }

    private void wonder(String where) {
        int block = number(0, 3);
        int force = small(1000000);
        int length = small(100000);
        int one = index(model.value(3));
        int other = index(model.value(3));
        switch (random.nextInt(7)) {
            case 0: both(where, "first", () -> tackle.first(), () -> model.first()); break;
            case 1: both(where, "forceForAll", () -> tackle.forceForAll(), () -> model.forceForAll()); break;
            case 2: both(where, "pulleysFor", () -> tackle.pulleysFor(block, force), () -> model.pulleysFor(block, force)); break;
            case 3: both(where, "bestEnd", () -> tackle.bestEnd(block), () -> model.bestEnd(block)); break;
            case 4: both(where, "swapped", () -> tackle.swapped(block, one, other), () -> model.swapped(block, one, other)); break;
            case 5: both(where, "riseBy", () -> tackle.riseBy(block, force, length), () -> model.riseBy(block, force, length)); break;
            default: both(where, "efficiency", () -> tackle.efficiency(), () -> model.efficiency()); break;
        }
    }

    private void write(String where) {
        int value = number(0, 127);
        switch (random.nextInt(4)) {
            case 0: both(where, "append", () -> tackle.append(value), () -> model.append(value)); break;
            case 1: both(where, "clearText", () -> tackle.clearText(), () -> model.clearText()); break;
            default:
                both(where, "clearText", () -> tackle.clearText(), () -> model.clearText());
                for (char sign : text(random).toCharArray()) {
                    both(where, "append", () -> tackle.append(sign), () -> model.append(sign));
                }
                both(where, "parse", () -> tackle.parse(), () -> model.parse());
                break;
        }
    }

    /** A reeving, of which now and then a byte is changed, put in or taken out. */
    private static String text(Random random) {
        StringBuilder text = new StringBuilder();
        int pulleys = random.nextInt(11);
        for (int i = 0; i < pulleys; i++) {
            text.append(random.nextInt(4));
        }
        text.append('.').append(random.nextInt(5));
        int weights = random.nextInt(5);
        for (int i = 0; i < weights; i++) {
            String weight = String.valueOf(random.nextInt(random.nextInt(6) == 0 ? 60000 : 3000));
            text.append(',').append("0".repeat(random.nextInt(6 - weight.length()))).append(weight);
        }
        int changes = Math.max(0, random.nextInt(5) - 2);
        for (int i = 0; i < changes; i++) {
            char sign = "0123456789.,, x/:+-".charAt(random.nextInt(19));
            int place = random.nextInt(text.length() + 1);
            switch (random.nextInt(3)) {
                case 0: text.insert(place, sign); break;
                case 1: text.setLength(place); break;
                default: text.replace(place, place + 1, String.valueOf(sign)); break;
            }
        }
        return text.toString();
    }

    /** The reader alone, on many texts. */
    private static void texts() {
        Random random = new Random(7);
        for (int i = 0; i < 40000; i++) {
            String text = text(random);
            RopeTackle tackle = new RopeTackle();
            tackle.setLength(300000);
            Check.write(tackle, text);
            int fault = Model.fault(text);
            int got = tackle.parse();
            check.holds("parse() of " + text + " answered " + got + ", the fault is at " + fault + ": it",
                fault >= 0 ? got == -10 - fault : got >= 90000);
        }
    }
}
