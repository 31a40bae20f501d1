/** Counts what a test checks and what is wrong, and holds what the tests share. */
final class Checks {
    interface Call {
        void make();
    }

    private int done;
    private int wrong;
    private String sentence = "";

    /** The document's words that the checks from here on are about; told where one is wrong. */
    void sentence(String words) {
        sentence = "[" + words + "] ";
    }

    void due(String what, long got, long want) {
        due(what, Long.toString(got), Long.toString(want));
    }

    void due(String what, boolean got, boolean want) {
        due(what, Boolean.toString(got), Boolean.toString(want));
    }

    void due(String what, String got, String want) {
        done++;
        if (!got.equals(want)) {
            wrong++;
            String told = what + " answered " + got + ", due is " + want;
            System.out.println(printable(sentence + told));
        }
    }

    /** Bytes that a screen could not show are told by their numbers. */
    private static String printable(String text) {
        StringBuilder shown = new StringBuilder();
        for (char c : text.toCharArray()) {
            shown.append(c >= 32 && c < 127 ? "" + c : "{" + (int) c + "}");
        }
        return shown.toString();
    }

    void throwsDue(String what, Class<? extends RuntimeException> want, Call call) {
        due(what, thrown(call), want.getName());
    }

    /** The name of what a call throws. */
    static String thrown(Call call) {
        try {
            call.make();
        } catch (RuntimeException e) {
            return e.getClass().getName();
        }
        return "nothing thrown";
    }

    /** That a tape is read without a fault. */
    void reads(String text, int blocks) {
        Flow x = new Flow();
        due("'" + text + "': read()", load(x, text), blocks);
        due("'" + text + "': fault()", x.fault(), 0);
        due("'" + text + "': place()", x.place(), ConstantFlow.NONE);
        due("'" + text + "': told(0)", x.told(0), blocks);
    }

    /** That a tape has a fault. */
    void refuses(String text, int fault, int place) {
        Flow x = new Flow();
        due("'" + text + "': read()", load(x, text), ConstantFlow.NONE);
        due("'" + text + "': fault()", x.fault(), fault);
        due("'" + text + "': place()", x.place(), place);
    }

    void comes(String text, String wanted) {
        due("'" + text + "': comes", come(loaded(text)), wanted);
    }

    void beginning(String text, int block, String wanted) {
        due("'" + text + "': beginning of " + block, facts(loaded(text), block, false), wanted);
    }

    void end(String text, int block, String wanted) {
        due("'" + text + "': end of " + block, facts(loaded(text), block, true), wanted);
    }

    void tells(String text, String wanted) {
        due("'" + text + "': told", tallies(loaded(text)), wanted);
    }

    void writes(String text, String anew) {
        Flow x = loaded(text);
        due("'" + text + "': write()", x.write(), anew.length());
        due("'" + text + "': anew", anew(x), anew);
    }

    void finish() {
        System.out.println(done + " checks, " + wrong + " wrong");
        System.exit(wrong == 0 && done > 0 ? 0 : 1);
    }

    /** Eight characters (0 to 255) of a text, the first one lowest; 0 where there are none. */
    static long eight(String text, long from) {
        long packed = 0;
        for (int k = 7; k >= 0; k--) {
            long i = from + k;
            packed = packed << 8 | (i >= 0 && i < text.length() ? text.charAt((int) i) : 0);
        }
        return packed;
    }

    /** Feeds a text of characters 0 to 255; answers what the last feed answered. */
    static int feed(Flow x, String text) {
        int answer = 0;
        for (int i = 0; i < text.length(); i += 8) {
            answer = x.feed(Math.min(8, text.length() - i), eight(text, i));
        }
        return answer;
    }

    /** Reads a text in place of what the tape has. */
    static int load(Flow x, String text) {
        x.wipe();
        feed(x, text);
        return x.read();
    }

    static Flow loaded(String text) {
        Flow x = new Flow();
        if (load(x, text) == ConstantFlow.NONE) {
            throw new IllegalArgumentException(text + ": fault " + x.fault() + " at " + x.place());
        }
        return x;
    }

    /** What write() writes now, asked for through written(). */
    static String anew(Flow x) {
        return lastWritten(x, x.write());
    }

    static String lastWritten(Flow x, int length) {
        StringBuilder text = new StringBuilder();
        for (int i = 0; i < length; i += 8) {
            long eight = x.written(i);
            for (int k = 0; k < Math.min(8, length - i); k++) {
                text.append((char) (eight >>> (8 * k) & 255));
            }
        }
        return text.toString();
    }

    /** Which blocks are come to: a letter y or n for each. */
    static String come(Flow x) {
        StringBuilder text = new StringBuilder();
        for (int block = 0; block < x.told(0); block++) {
            text.append(x.comes(block) ? 'y' : 'n');
        }
        return text.toString();
    }

    /** The eight facts at a block's beginning or end: a number, ? for ANY, - for not come to. */
    static String facts(Flow x, int block, boolean end) {
        StringBuilder text = new StringBuilder();
        for (int variable = 0; variable < 8; variable++) {
            text.append(variable == 0 ? "" : " ").append(fact(x, block, variable, end));
        }
        return text.toString();
    }

    static String fact(Flow x, int block, int variable, boolean end) {
        int known = x.known(block, variable, end);
        return known == 0 ? "-" : known == ConstantFlow.ANY ? "?" : known == 1
                ? Integer.toString(x.number(block, variable, end)) : "known " + known;
    }

    static String tallies(Flow x) {
        StringBuilder text = new StringBuilder();
        for (int what = 0; what < 7; what++) {
            text.append(what == 0 ? "" : " ").append(x.told(what));
        }
        return text.toString();
    }

    static String values(Flow x) {
        StringBuilder text = new StringBuilder();
        for (int variable = 0; variable < 8; variable++) {
            text.append(variable == 0 ? "" : " ").append(x.value(variable));
        }
        return text.toString();
    }
}
