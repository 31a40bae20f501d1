import java.util.ArrayList;
import java.util.List;

/** Made-up programs, whole and broken, answered by ConstantFlow and by the Model (all promises). */
public final class ModelTest {
    private static final Checks CHECKS = new Checks();
    private static final int PROGRAMS = 6000;
    private static final String BYTES = "abhi=;.?>:-+*/%&|^<0129 \n\u0000!\u0080\u00ff";
    private static final int[] NUMBERS = {0, 0, 0, 1, 1, 2, 3, -1, -7, 65536, Integer.MAX_VALUE,
        Integer.MIN_VALUE};

    // A fixed row of numbers, so that a wrong answer comes again.
    private static long seed = 20261115;

    private static int pick(int bound) {
        seed = seed * 6364136223846793005L + 1442695040888963407L;
        return (int) ((seed >>> 33) % bound);
    }

    public static void main(String[] args) {
        int whole = 0;
        int[] faults = new int[5];
        ConstantFlow x = new ConstantFlow();
        Model program = new Model(".");
        for (int i = 0; i < PROGRAMS; i++) {
            if (i % 40 == 0) {
                x = new ConstantFlow();
                program = new Model(".");
            }
            String text = pick(3) > 0 ? program() : broken(program());
            Model read = new Model(text);
            faults[read.fault]++;
            int blocks = read.fault == 0 ? read.blocks.size() : -1;
            String name = "'" + text + "'";
            CHECKS.due(name + ": read()", Checks.load(x, text), blocks);
            CHECKS.due(name + ": fault()", x.fault(), read.fault);
            CHECKS.due(name + ": place()", x.place(), read.place);
            if (read.fault == 0) {
                program = read;
                whole++;
            }
            compare(name, x, program);
        }
        for (int fault = 0; fault < 5; fault++) {
            CHECKS.due("enough programs with fault " + fault, faults[fault] > 20, true);
        }
        System.out.println(whole + " whole programs of " + PROGRAMS);
        CHECKS.finish();
    }

    private static void compare(String name, ConstantFlow x, Model model) {
        for (int block = 0; block < model.blocks.size(); block++) {
            CHECKS.due(name + ": comes(" + block + ")", x.comes(block),
                    model.beginnings[block] != null);
            CHECKS.due(name + ": beginning of " + block, Checks.facts(x, block, false),
                    model.facts(block, false));
            CHECKS.due(name + ": end of " + block, Checks.facts(x, block, true),
                    model.facts(block, true));
        }
        CHECKS.due(name + ": told", Checks.tallies(x), model.tallies());
        CHECKS.due(name + ": anew", Checks.anew(x), model.anew());
        List<Integer> inputs = new ArrayList<>();
        x.clear();
        for (int i = pick(6); i > 0; i--) {
            inputs.add(NUMBERS[pick(NUMBERS.length)]);
            x.input(inputs.get(inputs.size() - 1));
        }
        int steps = pick(4) == 0 ? pick(20) : 500;
        String due = model.run(inputs, steps);
        CHECKS.due(name + ": run(" + steps + ")", run(x, steps), due);
        if (x.take() != ConstantFlow.NONE) {
            // What is written anew does the same steps, and can't be bettered by the same facts.
            String anew = model.anew();
            ConstantFlow y = Checks.loaded(anew);
            for (int input : inputs) {
                y.input(input);
            }
            CHECKS.due(name + ": run(" + steps + ") of " + anew, run(y, steps), due);
            CHECKS.due(name + ": anew twice", Checks.anew(y), anew);
            CHECKS.due(name + ": the tape taken", x.wipe(), anew.length());
        } else {
            CHECKS.due(name + ": take()", model.anew().length() > 700, true);
        }
    }

    private static String run(ConstantFlow x, int steps) {
        return x.run(steps) + " / " + Checks.values(x) + " / " + x.asked();
    }

    private static String program() {
        StringBuilder text = new StringBuilder();
        int blocks = 1 + (pick(8) == 0 ? pick(25) : pick(7));
        int each = pick(5) == 0 ? 9 : 4;
        for (int block = 0; block < blocks; block++) {
            for (int i = pick(each); i > 0; i--) {
                statement(text);
            }
            end(text, blocks);
            gap(text, 1);
        }
        // What the tape can't hold is cut, which is one more way to be broken.
        return text.length() > 700 ? text.substring(0, 700) : text.toString();
    }

    private static void gap(StringBuilder text, int least) {
        int blanks = Math.max(least, pick(12) == 0 ? 1 + pick(2) : 0);
        for (int i = 0; i < blanks; i++) {
            text.append(" \n\t\u0000".charAt(pick(4)));
        }
    }

    private static void put(StringBuilder text, Object part) {
        gap(text, 0);
        text.append(part);
    }

    private static void variable(StringBuilder text) {
        put(text, (char) ('a' + (pick(3) == 0 ? pick(8) : pick(4))));
    }

    private static void operand(StringBuilder text) {
        if (pick(3) > 0) {
            variable(text);
        } else {
            put(text, NUMBERS[pick(NUMBERS.length)]);
        }
    }

    private static void statement(StringBuilder text) {
        variable(text);
        put(text, '=');
        int kind = pick(8);
        if (kind == 0) {
            put(text, '?');
        } else {
            operand(text);
            if (kind > 2) {
                put(text, "+-*/%&|^<=".charAt(pick(10)));
                operand(text);
            }
        }
        put(text, ';');
    }

    private static void end(StringBuilder text, int blocks) {
        int kind = pick(7);
        if (kind == 0) {
            put(text, '.');
            return;
        }
        if (kind < 3) {
            put(text, '>');
        } else {
            operand(text);
            put(text, '?');
            goal(text, blocks);
            put(text, ':');
        }
        goal(text, blocks);
    }

    private static void goal(StringBuilder text, int blocks) {
        put(text, pick(150) == 0 ? blocks + pick(2) : pick(blocks));
    }

    private static String broken(String text) {
        StringBuilder changed = new StringBuilder(text);
        for (int i = 1 + pick(2); i > 0; i--) {
            int at = pick(changed.length() + 1);
            int kind = pick(8);
            char added = BYTES.charAt(pick(BYTES.length()));
            if (kind < 2 && at < changed.length()) {
                changed.deleteCharAt(at);
            } else if (kind < 4 && at < changed.length()) {
                changed.setCharAt(at, added);
            } else if (kind == 4) {
                changed.insert(at, "2147483647" + pick(3));
            } else if (kind == 5) {
                changed.insert(at, "c=d;".repeat(70 + pick(12)));
            } else {
                changed.insert(at, added);
            }
        }
        return changed.length() > 700 ? changed.substring(0, 700) : changed.toString();
    }
}
