import java.util.ArrayList;
import java.util.List;

/** Made-up programs, whole and broken, answered by Flow and by the Model (all promises). */
public final class ModelTest {
    private static final Checks CHECKS = new Checks();
    private static final int PROGRAMS = 6000;
    private static final String BYTES = "abhi=;.?>:-+*/%&|^<0129 \n\u0000!\u0080\u00ff";
    private static final int[] NUMBERS = {0, 0, 0, 1, 1, 2, 3, -1, -7, 65536, Integer.MAX_VALUE,
        Integer.MIN_VALUE};

    // A fixed row of numbers, so that a wrong answer comes again.
    private static long seed = 20261115;

    private static int pick(int bound) {
        seed = seed * 6364136223846793005L + 1442695040888963407L;
        return (int) ((seed >>> 33) % bound);
    }

    public static void main(String[] args) {
        int[] faults = new int[5];
        String before = ".";
        for (int i = 0; i < PROGRAMS; i++) {
            String text = pick(3) > 0 ? program() : broken(program());
            Model read = new Model(text);
            faults[read.fault]++;
            compareReading(before, text, read);
            Model program = read.fault == 0 ? read : new Model(before);
            compareFacts(before, text, program);
            compareRuns(before, text, program);
            before = read.fault == 0 ? text : before;
        }
        for (int fault = 0; fault < 5; fault++) {
            CHECKS.due("enough programs with fault " + fault, faults[fault] > 20, true);
        }
        System.out.println(faults[0] + " whole programs of " + PROGRAMS);
        CHECKS.finish();
    }

    /** An object that read one program and then another text: nothing but what stays may show. */
    private static Flow readBoth(String before, String text) {
        Flow x = Checks.loaded(before);
        Checks.load(x, text);
        return x;
    }

    private static void compareReading(String before, String text, Model read) {
        Flow x = Checks.loaded(before);
        String name = "'" + text + "'";
        int blocks = read.fault == 0 ? read.blocks.size() : ConstantFlow.NONE;
        CHECKS.due(name + ": read()", Checks.load(x, text), blocks);
        CHECKS.due(name + ": fault()", x.fault(), read.fault);
        CHECKS.due(name + ": place()", x.place(), read.place);
    }

    private static void compareFacts(String before, String text, Model model) {
        Flow x = readBoth(before, text);
        for (int block = 0; block < model.blocks.size(); block++) {
            if (x.calls() > Flow.CALLS_MOST - 40) {
                x = readBoth(before, text);
            }
            String name = "'" + text + "': block " + block;
            CHECKS.due(name + ": comes", x.comes(block), model.beginnings[block] != null);
            CHECKS.due(name + ": beginning", Checks.facts(x, block, false),
                    model.facts(block, false));
            CHECKS.due(name + ": end", Checks.facts(x, block, true), model.facts(block, true));
        }
    }

    private static void compareRuns(String before, String text, Model model) {
        Flow x = readBoth(before, text);
        String name = "'" + text + "'";
        String anew = model.anew();
        CHECKS.due(name + ": told", Checks.tallies(x), model.tallies());
        CHECKS.due(name + ": anew", Checks.anew(x), anew);
        List<Integer> inputs = new ArrayList<>();
        for (int i = pick(6); i > 0; i--) {
            inputs.add(NUMBERS[pick(NUMBERS.length)]);
            x.input(inputs.get(inputs.size() - 1));
        }
        int steps = pick(4) == 0 ? pick(20) : 500;
        String due = model.run(inputs, steps);
        CHECKS.due(name + ": run(" + steps + ")", run(x, steps), due);
        boolean fits = anew.length() <= 700;
        CHECKS.due(name + ": take()", x.take(), fits ? anew.length() : ConstantFlow.NONE);
        CHECKS.due(name + ": the tape", x.wipe(), fits ? anew.length() : text.length());
        if (fits) {
            // What is written anew does the same steps, and can't be bettered by the same facts.
            Flow y = Checks.loaded(anew);
            for (int input : inputs) {
                y.input(input);
            }
            CHECKS.due(name + ": run(" + steps + ") of " + anew, run(y, steps), due);
            CHECKS.due(name + ": anew twice", Checks.anew(y), anew);
        }
    }

    private static String run(Flow x, int steps) {
        return x.run(steps) + " / " + Checks.values(x) + " / " + x.asked();
    }

    private static String program() {
        StringBuilder text = new StringBuilder();
        int blocks = 1 + (pick(8) == 0 ? pick(25) : pick(7));
        int each = pick(5) == 0 ? 9 : 4;
        for (int block = 0; block < blocks; block++) {
            for (int i = pick(each); i > 0; i--) {
                statement(text);
            }
            end(text, blocks);
            gap(text, 1);
        }
        // What the tape can't hold is cut, which is one more way to be broken.
        return text.length() > 700 ? text.substring(0, 700) : text.toString();
    }

    private static void gap(StringBuilder text, int least) {
        int blanks = Math.max(least, pick(12) == 0 ? 1 + pick(2) : 0);
        for (int i = 0; i < blanks; i++) {
            text.append(" \n\t\u0000".charAt(pick(4)));
        }
    }

    private static void put(StringBuilder text, Object part) {
        gap(text, 0);
        text.append(part);
    }

    private static void variable(StringBuilder text) {
        put(text, (char) ('a' + (pick(3) == 0 ? pick(8) : pick(4))));
    }

    private static void operand(StringBuilder text) {
        if (pick(3) > 0) {
            variable(text);
        } else {
            put(text, NUMBERS[pick(NUMBERS.length)]);
        }
    }

    private static void statement(StringBuilder text) {
        variable(text);
        put(text, '=');
        int kind = pick(8);
        if (kind == 0) {
            put(text, '?');
        } else {
            operand(text);
            if (kind > 2) {
                put(text, "+-*/%&|^<=".charAt(pick(10)));
                operand(text);
            }
        }
        put(text, ';');
    }

    private static void end(StringBuilder text, int blocks) {
        int kind = pick(7);
        if (kind == 0) {
            put(text, '.');
            return;
        }
        if (kind < 3) {
            put(text, '>');
        } else {
            operand(text);
            put(text, '?');
            goal(text, blocks);
            put(text, ':');
        }
        goal(text, blocks);
    }

    private static void goal(StringBuilder text, int blocks) {
        put(text, pick(150) == 0 ? blocks + pick(2) : pick(blocks));
    }

    private static String broken(String text) {
        StringBuilder changed = new StringBuilder(text);
        for (int i = 1 + pick(2); i > 0; i--) {
            int at = pick(changed.length() + 1);
            int kind = pick(8);
            char added = BYTES.charAt(pick(BYTES.length()));
            if (kind < 2 && at < changed.length()) {
                changed.deleteCharAt(at);
            } else if (kind < 4 && at < changed.length()) {
                changed.setCharAt(at, added);
            } else if (kind == 4) {
                changed.insert(at, "2147483647" + pick(3));
            } else if (kind == 5) {
                changed.insert(at, "c=d;".repeat(70 + pick(12)));
            } else {
                changed.insert(at, added);
            }
        }
        return changed.length() > 700 ? changed.substring(0, 700) : changed.toString();
    }
}
