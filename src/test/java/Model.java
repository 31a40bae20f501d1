import java.math.BigInteger;
import java.util.ArrayList;
import java.util.Arrays;
import java.util.List;

/**
 * The document's words in another shape than the program's: reading goes from state to state byte
 * by byte, and facts are made anew from nothing in every round.
 */
final class Model {
    static final Object ANY = "?";

    static final class Operand {
        int variable = -1;
        int number;

        Object by(Object[] facts) {
            return variable < 0 ? (Object) number : facts[variable];
        }

        int in(int[] values) {
            return variable < 0 ? number : values[variable];
        }

        String anew(Object[] facts) {
            Object known = by(facts);
            return known == ANY ? "" + (char) ('a' + variable) : known.toString();
        }
    }

    static final class Statement {
        int variable;
        boolean asks;
        char operator = ' ';
        Operand x;
        Operand y;

        Object by(Object[] facts) {
            if (asks) {
                return ANY;
            }
            Object left = x.by(facts);
            if (operator == ' ') {
                return left;
            }
            Object right = y.by(facts);
            boolean zero = left.equals(0) || right.equals(0);
            if (zero && (operator == '*' || operator == '&')) {
                return 0;
            }
            return left == ANY || right == ANY ? ANY
                    : (Object) reckon(operator, (Integer) left, (Integer) right);
        }

        String anew(Object[] facts) {
            Object known = by(facts);
            String value = known != ANY ? known.toString() : asks ? "?"
                    : operator == ' ' ? x.anew(facts) : x.anew(facts) + operator + y.anew(facts);
            return (char) ('a' + variable) + "=" + value + ";";
        }
    }

    static final class Block {
        final List<Statement> statements = new ArrayList<>();
        Operand chooser;
        final List<Integer> goals = new ArrayList<>();
        final List<Integer> goalPlaces = new ArrayList<>();
    }

    final List<Block> blocks = new ArrayList<>();
    int statements;
    int fault;
    int place = -1;
    Object[][] beginnings;
    private Block open = new Block();
    private Statement statement;

    Model(String tape) {
        readAll(tape);
        for (Block block : blocks) {
            for (int i = 0; i < block.goals.size() && fault == 0; i++) {
                if (block.goals.get(i) >= blocks.size()) {
                    fail(4, block.goalPlaces.get(i));
                }
            }
        }
        if (fault == 0) {
            findFacts();
        }
    }

    static int reckon(char operator, int x, int y) {
        BigInteger a = BigInteger.valueOf(x);
        BigInteger b = BigInteger.valueOf(y);
        boolean none = y == 0;
        switch (operator) {
            case '+': return a.add(b).intValue();
            case '-': return a.subtract(b).intValue();
            case '*': return a.multiply(b).intValue();
            case '/': return none ? 0 : a.divide(b).intValue();
            case '%': return none ? 0 : a.subtract(a.divide(b).multiply(b)).intValue();
            case '&': return a.and(b).intValue();
            case '|': return a.or(b).intValue();
            case '^': return a.xor(b).intValue();
            case '<': return a.compareTo(b) < 0 ? 1 : 0;
            default: return a.equals(b) ? 1 : 0;
        }
    }

    private void fail(int kind, int where) {
        fault = kind;
        place = where;
    }

    private void readAll(String tape) {
        String state = "start";
        int letterAt = 0;
        for (int i = 0; fault == 0; i++) {
            if (i == tape.length()) {
                if (!state.equals("start") || blocks.isEmpty() || !open.statements.isEmpty()) {
                    fail(1, i);
                }
                return;
            }
            char c = tape.charAt(i);
            if (c <= 32) {
                continue;
            }
            if (state.equals("start") && open.statements.isEmpty() && blocks.size() == 24) {
                fail(3, i);
                return;
            }
            boolean numeral = Character.digit(c, 10) >= 0 && c < 128;
            boolean goal = state.startsWith("goal");
            boolean number = numeral && !state.matches("letter|operator|semicolon|choose|colon")
                    || c == '-' && state.matches("start|value|right");
            if (number) {
                int last = i + 1;
                while (last < tape.length() && tape.charAt(last) >= '0'
                        && tape.charAt(last) <= '9') {
                    last++;
                }
                String figures = tape.substring(i, last);
                if (figures.equals("-")) {
                    fail(1, last);
                    return;
                }
                BigInteger big = new BigInteger(figures);
                if (big.bitLength() > 31) {
                    fail(2, i);
                    return;
                }
                if (goal) {
                    open.goals.add(big.intValue());
                    open.goalPlaces.add(i);
                    state = state.equals("goal1") ? "colon" : close();
                } else {
                    Operand operand = new Operand();
                    operand.number = big.intValue();
                    state = operand(state, operand);
                }
                i = last - 1;
                continue;
            }
            boolean letter = c >= 'a' && c <= 'h';
            if (state.equals("start") && letter) {
                letterAt = i;
                state = "letter";
            } else if (state.equals("start") && c == '.') {
                state = close();
            } else if (state.equals("start") && c == '>') {
                state = "goal";
            } else if (state.equals("letter") && c == '=') {
                if (statements == 80) {
                    fail(3, letterAt);
                    return;
                }
                statements++;
                statement = new Statement();
                statement.variable = tape.charAt(letterAt) - 'a';
                open.statements.add(statement);
                state = "value";
            } else if (state.equals("letter") && c == '?') {
                open.chooser = new Operand();
                open.chooser.variable = tape.charAt(letterAt) - 'a';
                state = "goal1";
            } else if (state.equals("value") && c == '?') {
                statement.asks = true;
                state = "semicolon";
            } else if (state.matches("value|right") && letter) {
                Operand operand = new Operand();
                operand.variable = c - 'a';
                state = operand(state, operand);
            } else if (state.equals("operator") && "+-*/%&|^<=".indexOf(c) >= 0) {
                statement.operator = c;
                state = "right";
            } else if (state.matches("operator|semicolon") && c == ';') {
                state = "start";
            } else if (state.equals("choose") && c == '?') {
                state = "goal1";
            } else if (state.equals("colon") && c == ':') {
                state = "goal2";
            } else {
                fail(1, i);
            }
        }
    }

    private String operand(String state, Operand operand) {
        if (state.equals("start")) {
            open.chooser = operand;
            return "choose";
        }
        if (state.equals("value")) {
            statement.x = operand;
            return "operator";
        }
        statement.y = operand;
        return "semicolon";
    }

    private String close() {
        blocks.add(open);
        open = new Block();
        return "start";
    }

    private void findFacts() {
        Object[][] before = new Object[blocks.size()][];
        for (int round = 0; round < 100000; round++) {
            Object[][] now = new Object[blocks.size()][];
            Object[] zeros = new Object[8];
            Arrays.fill(zeros, 0);
            now[0] = zeros;
            for (int from = 0; from < blocks.size(); from++) {
                if (before[from] != null) {
                    for (int goal : goals(blocks.get(from), ends(before, from))) {
                        now[goal] = joined(now[goal], ends(before, from));
                    }
                }
            }
            if (Arrays.deepEquals(now, before)) {
                beginnings = now;
                return;
            }
            before = now;
        }
        throw new IllegalStateException("no least facts found");
    }

    private static Object[] joined(Object[] one, Object[] other) {
        if (one == null) {
            return other;
        }
        Object[] both = new Object[8];
        for (int i = 0; i < 8; i++) {
            both[i] = one[i].equals(other[i]) ? one[i] : ANY;
        }
        return both;
    }

    private static List<Integer> goals(Block block, Object[] facts) {
        Object choice = block.chooser == null ? ANY : block.chooser.by(facts);
        return choice == ANY ? block.goals : List.of(block.goals.get(choice.equals(0) ? 1 : 0));
    }

    private Object[] ends(Object[][] all, int block) {
        Object[] facts = all[block].clone();
        for (Statement each : blocks.get(block).statements) {
            facts[each.variable] = each.by(facts);
        }
        return facts;
    }

    String facts(int block, boolean end) {
        if (beginnings[block] == null) {
            return "- - - - - - - -";
        }
        StringBuilder text = new StringBuilder();
        for (Object fact : end ? ends(beginnings, block) : beginnings[block]) {
            text.append(text.length() == 0 ? "" : " ").append(fact);
        }
        return text.toString();
    }

    String tallies() {
        int[] told = new int[7];
        told[0] = blocks.size();
        told[2] = statements;
        for (int i = 0; i < blocks.size(); i++) {
            if (beginnings[i] != null) {
                Block block = blocks.get(i);
                Object[] facts = beginnings[i].clone();
                told[1]++;
                for (Statement each : block.statements) {
                    Object known = each.by(facts);
                    told[3]++;
                    told[4] += known == ANY ? 0 : 1;
                    facts[each.variable] = known;
                }
                told[5] += block.chooser == null ? 0 : 1;
                told[6] += block.chooser == null || block.chooser.by(facts) == ANY ? 0 : 1;
            }
        }
        return Arrays.toString(told).replaceAll("[\\[\\],]", "");
    }

    String anew() {
        List<Integer> kept = new ArrayList<>();
        for (int i = 0; i < blocks.size(); i++) {
            if (beginnings[i] != null) {
                kept.add(i);
            }
        }
        StringBuilder text = new StringBuilder();
        for (int i : kept) {
            Block block = blocks.get(i);
            Object[] facts = beginnings[i].clone();
            for (Statement each : block.statements) {
                text.append(each.anew(facts));
                facts[each.variable] = each.by(facts);
            }
            List<Integer> goals = goals(block, facts);
            if (goals.isEmpty()) {
                text.append('.');
            } else if (goals.size() == 1) {
                text.append('>').append(kept.indexOf(goals.get(0)));
            } else {
                text.append(block.chooser.anew(facts)).append('?');
                text.append(kept.indexOf(goals.get(0))).append(':');
                text.append(kept.indexOf(goals.get(1)));
            }
        }
        return text.toString();
    }

    /** The steps (or -1), the values and the number of ? met, in one text. */
    String run(List<Integer> inputs, int most) {
        int[] values = new int[8];
        int asked = 0;
        int done = 0;
        int block = 0;
        boolean ended = false;
        while (!ended && done < most) {
            Block now = blocks.get(block);
            for (Statement each : now.statements) {
                if (done < most) {
                    int value = each.asks ? (asked < inputs.size() ? inputs.get(asked) : 0)
                            : each.operator == ' ' ? each.x.in(values)
                            : reckon(each.operator, each.x.in(values), each.y.in(values));
                    asked += each.asks ? 1 : 0;
                    values[each.variable] = value;
                    done++;
                }
            }
            if (done < most) {
                done++;
                ended = now.goals.isEmpty();
                boolean second = now.chooser != null && now.chooser.in(values) == 0;
                block = ended ? block : now.goals.get(second ? 1 : 0);
            }
        }
        return (ended ? done : -1) + " / " + Arrays.toString(values).replaceAll("[\\[\\],]", "")
                + " / " + asked;
    }
}
