import java.util.ArrayList;
import java.util.HashMap;
import java.util.HashSet;
import java.util.LinkedHashSet;
import java.util.List;
import java.util.Map;
import java.util.Set;
import java.util.regex.Matcher;
import java.util.regex.Pattern;

/** A second telling of the document, slow and plain: each run is a list of steps, priced behind its end. */
final class Model {
    private static final String[] WORDS = {"push", "drop", "dup", "swap", "over", "add", "sub", "mul", "less", "get",
        "set", "jump", "zero", "out", "halt"};
    private static final int[] TAKES = {0, 1, 1, 2, 2, 2, 2, 2, 2, 0, 1, 0, 1, 1, 0};
    private static final int[] PUTS = {1, 0, 2, 2, 3, 1, 1, 1, 1, 1, 0, 0, 0, 0, 0};

    /** An order of the program. */
    private record Order(int kind, int operand, boolean marked) {
    }

    /** A step that was done; to is the place to which it jumped, or -1. */
    private record Step(int place, int kind, int to) {
    }

    /** What a run left behind. */
    private static final class Run {
        final List<Order> program;
        final List<Step> steps = new ArrayList<>();
        final List<Integer> pile = new ArrayList<>();
        final List<Integer> outs = new ArrayList<>();
        final int[] cells = new int[8];
        final Map<Integer, List<Integer>> traces = new HashMap<>();
        int end;
        int place;
        int most;
        int cost;

        Run(List<Order> program) {
            this.program = program;
        }
    }

    /** A fault of a text. */
    private static final class Fault extends RuntimeException {
        private static final long serialVersionUID = 1;
        final int number;
        final int place;

        Fault(int number, int place) {
            this.number = number;
            this.place = place;
        }
    }

    /** A token: its text ("" at the end, "?" for what is none) and its place. */
    private record Token(String text, int place) {
        boolean isWord() {
            return text.matches("[a-z]+");
        }

        boolean isWhole() {
            return text.matches("[0-9]+");
        }
    }

    private final StringBuilder tape = new StringBuilder();
    private List<Order> program = List.of();
    private final Set<Integer> joins = new LinkedHashSet<>();
    private Run latest;
    private int input;
    private int fault;
    private int where = -1;
    private int better = -1;
    private int trouble;

    int feed(int... numbers) {
        if (tape.length() > 580) {
            return -1;
        }
        for (int number : numbers) {
            for (int i = 3; i >= 0; i--) {
                tape.append((char) (number >> 8 * i & 255));
            }
        }
        return tape.length();
    }

    int program(int n) {
        if (n < 0 || n > tape.length()) {
            return refused(1);
        }
        String text = tape.substring(0, n);
        tape.setLength(0);
        try {
            program = read(text);
            fault = 0;
            return answered(program.size());
        } catch (Fault f) {
            fault = f.number;
            where = f.place;
            return refused(3);
        }
    }

    private static List<Token> tokens(String text) {
        List<Token> tokens = new ArrayList<>();
        Matcher matcher = Pattern.compile("[a-z]+|[0-9]+|[^ \n]").matcher(text);
        while (matcher.find()) {
            String token = matcher.group();
            boolean isOne = token.matches("[a-z]{1,8}|[0-9]{1,3}|[:;]");
            tokens.add(new Token(isOne ? token : "?", matcher.start()));
        }
        tokens.add(new Token("", text.length()));
        tokens.add(new Token("", text.length()));
        return tokens;
    }

    private static List<Order> read(String text) {
        List<Token> tokens = tokens(text);
        List<Order> orders = new ArrayList<>();
        List<Token> goals = new ArrayList<>();
        Map<String, Integer> marks = new HashMap<>();
        int at = 0;
        do {
            boolean marked = tokens.get(at).isWord() && tokens.get(at + 1).text().equals(":");
            if (marked) {
                if (marks.putIfAbsent(tokens.get(at).text(), orders.size()) != null) {
                    throw new Fault(3, tokens.get(at).place());
                }
                at += 2;
            }
            Token word = tokens.get(at++);
            int kind = List.of(WORDS).indexOf(word.text());
            need(word.isWord(), word);
            if (kind < 0) {
                throw new Fault(2, word.place());
            }
            if (orders.size() == 100) {
                throw new Fault(5, word.place());
            }
            Token goal = null;
            int operand = 0;
            if (kind == 11 || kind == 12) {
                goal = tokens.get(at++);
                need(goal.isWord(), goal);
            } else if (kind == 0 || kind == 9 || kind == 10) {
                Token whole = tokens.get(at++);
                need(whole.isWhole(), whole);
                operand = Integer.parseInt(whole.text());
                if (kind != 0 && operand > 7) {
                    throw new Fault(4, whole.place());
                }
            }
            need(tokens.get(at).text().equals(";"), tokens.get(at));
            at++;
            orders.add(new Order(kind, operand, marked));
            goals.add(goal);
        } while (!tokens.get(at).text().isEmpty());
        for (int i = 0; i < orders.size(); i++) {
            Token goal = goals.get(i);
            if (goal != null) {
                Integer place = marks.get(goal.text());
                if (place == null) {
                    throw new Fault(2, goal.place());
                }
                orders.set(i, new Order(orders.get(i).kind(), place, orders.get(i).marked()));
            }
        }
        return orders;
    }

    private static void need(boolean holds, Token at) {
        if (!holds) {
            throw new Fault(1, at.place());
        }
    }

    int fault() {
        return fault;
    }

    int where() {
        return trouble == 3 ? where : -1;
    }

    int order(int k, int what) {
        if (k < 0 || k >= program.size() || what < 0 || what > 2) {
            return -1;
        }
        Order order = program.get(k);
        return what == 0 ? order.kind() : what == 1 ? order.operand() : order.marked() ? 1 : 0;
    }

    void input(int v) {
        input = v;
    }

    int join(int first, int second) {
        if (first < 0 || first > 14 || second < 0 || second > 14) {
            return refused(1);
        }
        if (joins.size() == 10 || !joins.add(100 * first + second)) {
            return refused(2);
        }
        return answered(joins.size());
    }

    int part() {
        int were = joins.size();
        joins.clear();
        return were;
    }

    int joined() {
        return program.isEmpty() ? refused(4) : answered(seconds(program, joins).size());
    }

    private static Set<Integer> seconds(List<Order> orders, Set<Integer> joins) {
        Set<Integer> seconds = new HashSet<>();
        for (int first = 0; first + 1 < orders.size(); first++) {
            int pair = 100 * orders.get(first).kind() + orders.get(first + 1).kind();
            if (!seconds.contains(first) && joins.contains(pair) && !orders.get(first + 1).marked()) {
                seconds.add(first + 1);
            }
        }
        return seconds;
    }

    int run(int heart, int fuel) {
        int refusal = refusal(heart, fuel);
        if (refusal != 0) {
            return refused(refusal);
        }
        latest = go(heart, fuel, joins);
        return answered(latest.end);
    }

    private int refusal(int heart, int fuel) {
        return program.isEmpty() ? 4 : heart < 0 || heart > 4 || fuel < 1 || fuel > 5000 ? 1 : 0;
    }

    private Run go(int heart, int fuel, Set<Integer> joined) {
        Run run = new Run(program);
        run.pile.add(input);
        run.most = 1;
        while (true) {
            if (run.place >= program.size()) {
                run.end = 4;
                break;
            }
            if (run.steps.size() == fuel) {
                run.end = 1;
                break;
            }
            Order order = program.get(run.place);
            int kind = order.kind();
            if (run.pile.size() < TAKES[kind]) {
                run.end = 2;
                break;
            }
            if (run.pile.size() - TAKES[kind] + PUTS[kind] > 32) {
                run.end = 3;
                break;
            }
            int to = step(run, order);
            run.most = Math.max(run.most, run.pile.size());
            run.steps.add(new Step(run.place, kind, to));
            if (kind == 14) {
                run.end = 0;
                break;
            }
            run.place = to >= 0 ? to : run.place + 1;
        }
        run.cost = price(run, heart, joined);
        return run;
    }

    private static int step(Run run, Order order) {
        List<Integer> p = run.pile;
        int[] taken = new int[TAKES[order.kind()]];
        for (int i = taken.length - 1; i >= 0; i--) {
            taken[i] = p.remove(p.size() - 1);
        }
        switch (order.kind()) {
            case 0 -> p.add(order.operand());
            case 2 -> p.addAll(List.of(taken[0], taken[0]));
            case 3 -> p.addAll(List.of(taken[1], taken[0]));
            case 4 -> p.addAll(List.of(taken[0], taken[1], taken[0]));
            case 5 -> p.add(taken[0] + taken[1]);
            case 6 -> p.add(taken[0] - taken[1]);
            case 7 -> p.add(taken[0] * taken[1]);
            case 8 -> p.add(taken[0] < taken[1] ? 1 : 0);
            case 9 -> p.add(run.cells[order.operand()]);
            case 10 -> run.cells[order.operand()] = taken[0];
            case 13 -> run.outs.add(taken[0]);
            default -> { }
        }
        boolean jumps = order.kind() == 11 || order.kind() == 12 && taken[0] == 0;
        return jumps ? order.operand() : -1;
    }

    private static int price(Run run, int heart, Set<Integer> joined) {
        int cost = 0;
        for (Step step : run.steps) {
            cost += (step.kind() == 7 ? 3 : 1) + TAKES[step.kind()] + PUTS[step.kind()];
        }
        int all = run.steps.size();
        switch (heart) {
            case 0:
                return cost + 6 * all;
            case 1:
                return cost + 4 * all;
            case 2:
                return cost + 4 * all - 4 * secondSteps(run, seconds(run.program, joined));
            case 3:
                return cost + 4 * all + keptPrice(run);
            default:
                return cost + tracePrice(run);
        }
    }

    private static int secondSteps(Run run, Set<Integer> seconds) {
        int times = 0;
        for (int i = 1; i < run.steps.size(); i++) {
            int place = run.steps.get(i).place();
            if (seconds.contains(place) && run.steps.get(i - 1).place() == place - 1) {
                times++;
            }
        }
        return times;
    }

    private static int keptPrice(Run run) {
        int more = 0;
        boolean kept = false;
        for (Step step : run.steps) {
            boolean takes = TAKES[step.kind()] > 0;
            boolean puts = PUTS[step.kind()] > 0;
            more += (kept && takes ? -1 : 0) + (kept && !takes && puts ? 1 : 0) + (puts ? -1 : 0);
            kept = puts || kept && !takes;
        }
        return more;
    }

    private static int tracePrice(Run run) {
        int price = 0;
        Map<Integer, Integer> rounds = new HashMap<>();
        Set<Integer> never = new HashSet<>();
        List<Integer> row = null;
        int rowOf = -1;
        List<Integer> within = null;
        int at = 0;
        for (Step step : run.steps) {
            int place = step.place();
            if (row != null && !row.isEmpty() && place == rowOf) {
                run.traces.put(rowOf, row);
                row = null;
            } else if (row != null && row.size() == 40) {
                never.add(rowOf);
                row = null;
            } else if (row != null) {
                row.add(place);
            }
            boolean goesOn = within != null && within.get(at % within.size()) == place;
            boolean goesIn = !goesOn && run.traces.containsKey(place);
            if (within != null && !goesOn) {
                price += 10;
                within = null;
            }
            if (goesIn) {
                within = run.traces.get(place);
                at = 0;
            }
            at++;
            price += !goesOn && !goesIn ? 4 : step.kind() == 12 ? 1 : 0;
            if (step.to() >= 0 && step.to() <= place) {
                int to = step.to();
                rounds.merge(to, 1, Integer::sum);
                if (rounds.get(to) >= 8 && row == null && !run.traces.containsKey(to) && !never.contains(to)) {
                    row = new ArrayList<>();
                    rowOf = to;
                }
            }
        }
        return price;
    }

    int told(int what) {
        if (latest == null) {
            return refused(5);
        }
        int[] all = {latest.steps.size(), latest.cost, latest.pile.size(), latest.outs.size(), latest.place, latest.most};
        return what < 0 || what > 5 ? refused(1) : answered(all[what]);
    }

    /** Null where the class throws. */
    Integer out(int i) {
        return latest == null || i < 0 || i >= Math.min(60, latest.outs.size()) ? null : latest.outs.get(i);
    }

    /** Null where the class throws. */
    Integer pile(int i) {
        return latest == null || i < 0 || i >= latest.pile.size() ? null : latest.pile.get(i);
    }

    int cell(int k) {
        return latest == null || k < 0 || k > 7 ? 0 : latest.cells[k];
    }

    int did(int kind) {
        if (latest == null || kind < 0 || kind > 14) {
            return -1;
        }
        return (int) latest.steps.stream().filter(s -> s.kind() == kind).count();
    }

    int follows(int first, int second) {
        if (latest == null || first < 0 || first > 14 || second < 0 || second > 14) {
            return -1;
        }
        int times = 0;
        for (int i = 1; i < latest.steps.size(); i++) {
            if (latest.steps.get(i - 1).kind() == first && latest.steps.get(i).kind() == second) {
                times++;
            }
        }
        return times;
    }

    int most() {
        if (latest == null) {
            return refused(5);
        }
        int best = -2;
        int times = 0;
        for (int first = 0; first < 15; first++) {
            for (int second = 0; second < 15; second++) {
                if (follows(first, second) > times) {
                    times = follows(first, second);
                    best = 100 * first + second;
                }
            }
        }
        return answered(best);
    }

    int traces() {
        return latest == null ? refused(5) : answered(latest.traces.size());
    }

    int trace(int place) {
        if (latest == null || place < 0 || place >= latest.program.size()) {
            return -1;
        }
        return latest.traces.getOrDefault(place, List.of()).size();
    }

    int cost(int heart, int fuel) {
        int refusal = refusal(heart, fuel);
        return refusal != 0 ? refused(refusal) : answered(go(heart, fuel, joins).cost);
    }

    int cheapest(int fuel) {
        int refusal = refusal(0, fuel);
        if (refusal != 0) {
            return refused(refusal);
        }
        int best = 0;
        for (int heart = 1; heart < 5; heart++) {
            if (go(heart, fuel, joins).cost < go(best, fuel, joins).cost) {
                best = heart;
            }
        }
        return answered(best);
    }

    int gain(int fuel) {
        int refusal = refusal(0, fuel);
        if (refusal != 0) {
            return refused(refusal);
        }
        Run run = go(2, fuel, joins);
        int most = 0;
        for (int pair = 0; pair <= 1414; pair++) {
            if (pair % 100 < 15 && !joins.contains(pair)) {
                Set<Integer> more = new HashSet<>(joins);
                more.add(pair);
                int gain = run.cost - price(run, 2, more);
                if (gain > most) {
                    most = gain;
                    better = pair;
                }
            }
        }
        return answered(most);
    }

    int better() {
        return better;
    }

    int count(int what) {
        return what == 0 ? program.size() : what == 1 ? joins.size() : what == 2 ? tape.length() : -1;
    }

    int trouble() {
        return trouble;
    }

    private int refused(int by) {
        trouble = by;
        return -1;
    }

    private int answered(int answer) {
        trouble = 0;
        return answer;
    }
}
