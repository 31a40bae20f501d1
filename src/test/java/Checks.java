import java.nio.charset.StandardCharsets;

/** Counts what the tests check, and what they share in calling a ConstantFlow. */
final class Checks {
    interface Call {
        void make();
    }

    private int done;
    private int wrong;

    void due(String what, long got, long want) {
        due(what, Long.toString(got), Long.toString(want));
    }

    void due(String what, boolean got, boolean want) {
        due(what, Boolean.toString(got), Boolean.toString(want));
    }

    void due(String what, String got, String want) {
        done++;
        if (!got.equals(want)) {
            wrong++;
            System.out.println(what + " answered " + got + ", due is " + want);
        }
    }

    void throwsDue(String what, Class<? extends RuntimeException> want, Call call) {
        String got = "nothing thrown";
        try {
            call.make();
        } catch (RuntimeException e) {
            got = e.getClass().getName();
        }
        due(what, got, want.getName());
    }

    void finish() {
        System.out.println(done + " checks, " + wrong + " wrong");
        System.exit(wrong == 0 && done > 0 ? 0 : 1);
    }

    /** Feeds a text of characters 0 to 255; answers what the last feed answered. */
    static int feed(ConstantFlow x, String text) {
        byte[] bytes = text.getBytes(StandardCharsets.ISO_8859_1);
        int answer = 0;
        for (int i = 0; i < bytes.length; i += 8) {
            int n = Math.min(8, bytes.length - i);
            long packed = 0;
            for (int k = 0; k < n; k++) {
                packed |= (bytes[i + k] & 255L) << (8 * k);
            }
            answer = x.feed(n, packed);
        }
        return answer;
    }

    /** Reads a text in place of what the tape has. */
    static int load(ConstantFlow x, String text) {
        x.wipe();
        feed(x, text);
        return x.read();
    }

    static ConstantFlow loaded(String text) {
        ConstantFlow x = new ConstantFlow();
        if (load(x, text) == ConstantFlow.NONE) {
            throw new IllegalArgumentException(text + ": fault " + x.fault() + " at " + x.place());
        }
        return x;
    }

    /** What write() writes now, asked for through written(). */
    static String anew(ConstantFlow x) {
        return lastWritten(x, x.write());
    }

    static String lastWritten(ConstantFlow x, int length) {
        StringBuilder text = new StringBuilder();
        for (int i = 0; i < length; i++) {
            text.append((char) (x.written(i) & 255));
        }
        return text.toString();
    }

    /** The eight facts at a block's beginning or end: a number, ? for ANY, - for not come to. */
    static String facts(ConstantFlow x, int block, boolean end) {
        StringBuilder text = new StringBuilder();
        for (int variable = 0; variable < 8; variable++) {
            int known = x.known(block, variable, end);
            text.append(variable == 0 ? "" : " ");
            text.append(known == 0 ? "-" : known == ConstantFlow.ANY ? "?" : known == 1
                    ? Integer.toString(x.number(block, variable, end)) : "known " + known);
        }
        return text.toString();
    }

    static String tallies(ConstantFlow x) {
        StringBuilder text = new StringBuilder();
        for (int what = 0; what < 7; what++) {
            text.append(what == 0 ? "" : " ").append(x.told(what));
        }
        return text.toString();
    }

    static String values(ConstantFlow x) {
        StringBuilder text = new StringBuilder();
        for (int variable = 0; variable < 8; variable++) {
            text.append(variable == 0 ? "" : " ").append(x.value(variable));
        }
        return text.toString();
    }
}
