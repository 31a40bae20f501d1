import java.util.ArrayList;
import java.util.List;

/** Made-up programs, whole and broken, answered by Flow and by the Model (all promises). */
public final class ModelTest {
    private static final Checks CHECKS = new Checks();
    private static final int TEXTS = 6000;
    private static final Programs PROGRAMS = new Programs(20261115);

    public static void main(String[] args) {
        int[] faults = new int[5];
        String before = ".";
        for (int i = 0; i < TEXTS; i++) {
            String text = PROGRAMS.text();
            Model read = new Model(text);
            faults[read.fault]++;
            compareReading(before, text, read);
            Model program = read.fault == 0 ? read : new Model(before);
            compareFacts(before, text, program);
            compareRuns(before, text, program);
            before = read.fault == 0 ? text : before;
        }
        for (int fault = 0; fault < 5; fault++) {
            CHECKS.due("enough programs with fault " + fault, faults[fault] > 20, true);
        }
        System.out.println(faults[0] + " whole programs of " + TEXTS);
        CHECKS.finish();
    }

    /** An object that read one program and then another text: nothing but what stays may show. */
    private static Flow readBoth(String before, String text) {
        Flow x = Checks.loaded(before);
        Checks.load(x, text);
        return x;
    }

    private static void compareReading(String before, String text, Model read) {
        Flow x = Checks.loaded(before);
        String name = "'" + text + "'";
        int blocks = read.fault == 0 ? read.blocks.size() : ConstantFlow.NONE;
        CHECKS.due(name + ": read()", Checks.load(x, text), blocks);
        CHECKS.due(name + ": fault()", x.fault(), read.fault);
        CHECKS.due(name + ": place()", x.place(), read.place);
    }

    private static void compareFacts(String before, String text, Model model) {
        Flow x = readBoth(before, text);
        for (int block = 0; block < model.blocks.size(); block++) {
            if (x.calls() > Flow.CALLS_MOST - 40) {
                x = readBoth(before, text);
            }
            String name = "'" + text + "': block " + block;
            CHECKS.due(name + ": comes", x.comes(block), model.beginnings[block] != null);
            CHECKS.due(name + ": beginning", Checks.facts(x, block, false),
                    model.facts(block, false));
            CHECKS.due(name + ": end", Checks.facts(x, block, true), model.facts(block, true));
        }
    }

    private static void compareRuns(String before, String text, Model model) {
        Flow x = readBoth(before, text);
        String name = "'" + text + "'";
        String anew = model.anew();
        CHECKS.due(name + ": told", Checks.tallies(x), model.tallies());
        CHECKS.due(name + ": anew", Checks.anew(x), anew);
        List<Integer> inputs = new ArrayList<>();
        for (int i = PROGRAMS.pick(6); i > 0; i--) {
            inputs.add(PROGRAMS.number());
            x.input(inputs.get(inputs.size() - 1));
        }
        int steps = PROGRAMS.pick(4) == 0 ? PROGRAMS.pick(20) : 500;
        String due = model.run(inputs, steps);
        CHECKS.due(name + ": run(" + steps + ")", run(x, steps), due);
        boolean fits = anew.length() <= 700;
        CHECKS.due(name + ": take()", x.take(), fits ? anew.length() : ConstantFlow.NONE);
        CHECKS.due(name + ": the tape", x.wipe(), fits ? anew.length() : text.length());
        if (fits) {
            // What is written anew does the same steps, and can't be bettered by the same facts.
            Flow y = Checks.loaded(anew);
            for (int input : inputs) {
                y.input(input);
            }
            CHECKS.due(name + ": run(" + steps + ") of " + anew, run(y, steps), due);
            CHECKS.due(name + ": anew twice", Checks.anew(y), anew);
        }
    }

    private static String run(Flow x, int steps) {
        return x.run(steps) + " / " + Checks.values(x) + " / " + x.asked();
    }
}
