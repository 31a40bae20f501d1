/** Makes programs up, whole and broken, from a fixed row of numbers: a wrong answer comes again. */
final class Programs {
    private static final String BYTES = "abhi=;.?>:-+*/%&|^<0129 \n\u0000!\u0080\u00ff";
    private static final int[] NUMBERS = {0, 0, 0, 1, 1, 2, 3, -1, -7, 65536, Integer.MAX_VALUE,
        Integer.MIN_VALUE};

    private long seed;

    Programs(long seed) {
        this.seed = seed;
    }

    /** A number from 0 on, below a bound. */
    int pick(int bound) {
        seed = seed * 6364136223846793005L + 1442695040888963407L;
        return (int) ((seed >>> 33) % bound);
    }

    int number() {
        return NUMBERS[pick(NUMBERS.length)];
    }

    /** Whole, or broken once in three times. */
    String text() {
        return pick(3) > 0 ? program() : broken(program());
    }

    private String program() {
        StringBuilder text = new StringBuilder();
        int blocks = 1 + (pick(8) == 0 ? pick(25) : pick(7));
        int each = pick(5) == 0 ? 9 : 4;
        for (int block = 0; block < blocks; block++) {
            for (int i = pick(each); i > 0; i--) {
                statement(text);
            }
            end(text, blocks);
            gap(text, 1);
        }
        // What the tape can't hold is cut, which is one more way to be broken.
        return text.length() > 700 ? text.substring(0, 700) : text.toString();
    }

    private void gap(StringBuilder text, int least) {
        int blanks = Math.max(least, pick(12) == 0 ? 1 + pick(2) : 0);
        for (int i = 0; i < blanks; i++) {
            text.append(" \n\t\u0000".charAt(pick(4)));
        }
    }

    private void put(StringBuilder text, Object part) {
        gap(text, 0);
        text.append(part);
    }

    private void variable(StringBuilder text) {
        put(text, (char) ('a' + (pick(3) == 0 ? pick(8) : pick(4))));
    }

    private void operand(StringBuilder text) {
        if (pick(3) > 0) {
            variable(text);
        } else {
            put(text, number());
        }
    }

    private void statement(StringBuilder text) {
        variable(text);
        put(text, '=');
        int kind = pick(8);
        if (kind == 0) {
            put(text, '?');
        } else {
            operand(text);
            if (kind > 2) {
                put(text, "+-*/%&|^<=".charAt(pick(10)));
                operand(text);
            }
        }
        put(text, ';');
    }

    private void end(StringBuilder text, int blocks) {
        int kind = pick(7);
        if (kind == 0) {
            put(text, '.');
            return;
        }
        if (kind < 3) {
            put(text, '>');
        } else {
            operand(text);
            put(text, '?');
            goal(text, blocks);
            put(text, ':');
        }
        goal(text, blocks);
    }

    private void goal(StringBuilder text, int blocks) {
        put(text, pick(150) == 0 ? blocks + pick(2) : pick(blocks));
    }

    private String broken(String text) {
        StringBuilder changed = new StringBuilder(text);
        for (int i = 1 + pick(2); i > 0; i--) {
            int at = pick(changed.length() + 1);
            int kind = pick(8);
            char added = BYTES.charAt(pick(BYTES.length()));
            if (kind < 2 && at < changed.length()) {
                changed.deleteCharAt(at);
            } else if (kind < 4 && at < changed.length()) {
                changed.setCharAt(at, added);
            } else if (kind == 4) {
                changed.insert(at, "2147483647" + pick(3));
            } else if (kind == 5) {
                changed.insert(at, "c=d;".repeat(70 + pick(12)));
            } else {
                changed.insert(at, added);
            }
        }
        return changed.length() > 700 ? changed.substring(0, 700) : changed.toString();
    }
}
