import java.util.NoSuchElementException;

/** Made-up programs and calls, each answer held against the Model's. */
final class ModelTest {
    private static final Check CHECK = new Check("ModelTest");
    private static final String[] WORDS = {"push", "drop", "dup", "swap", "over", "add", "sub", "mul", "less", "get",
        "set", "jump", "zero", "out", "halt"};
    private static final int[] ODD = {-1, 0, 1, 4, 5, 14, 15, 59, 60, 99, 100, 599, 600, 601, 5000, 5001,
        Integer.MAX_VALUE, Integer.MIN_VALUE, Integer.MIN_VALUE + 1, 32, 31, 7, 8};

    private static final int CALLS_PROMISED = 512;
    private static final int CALLS_OF_A_ROUND = 190;

    private final StepperHearts real = new StepperHearts();
    private final Model model = new Model();
    private final String name;
    private long seed;
    private int calls = 0;

    private static long tracesSeen = 0;
    private static long programsRead = 0;
    private static long faultsSeen = 0;

    private ModelTest(int number) {
        name = "object " + number + " ";
        seed = number * 0x9E3779B97F4A7C15L + 1;
    }

    public static void main(String[] args) {
        int objects = args.length > 0 ? Integer.parseInt(args[0]) : 2500;
        for (int number = 0; number < objects; number++) {
            new ModelTest(number).go();
        }
        System.out.println(programsRead + " programs, " + faultsSeen + " faults, " + tracesSeen + " traces");
        CHECK.isTrue("many programs were read", programsRead > objects);
        CHECK.isTrue("many faults were met", faultsSeen > objects / 2);
        CHECK.isTrue("many traces were seen", tracesSeen > objects);
        CHECK.end();
    }

    private int below(int bound) {
        seed = seed * 6364136223846793005L + 1442695040888963407L;
        return (int) ((seed >>> 33) % bound);
    }

    private void same(String call, long got, long want) {
        calls++;
        CHECK.due(name + "call " + calls + " " + call, got, want);
    }

    private void go() {
        anyCalls(below(12));
        while (calls < CALLS_PROMISED - CALLS_OF_A_ROUND) {
            int ahead = calls;
            tellText(below(4) == 0 ? spoiled(text()) : text());
            anyCalls(20);
            askSome();
            CHECK.isTrue("a round has at most " + CALLS_OF_A_ROUND + " calls", calls - ahead < CALLS_OF_A_ROUND);
        }
        same("trouble()", real.trouble(), model.trouble());
    }

    private String text() {
        switch (below(5)) {
            case 0:
                return looseProgram();
            case 1:
                return countingLoops(1 + below(3));
            case 2:
                return tangledLoops();
            case 3:
                return tangledZeros();
            default:
                return below(3) == 0 ? longLoop() : countingLoops(2);
        }
    }

    private String blank() {
        return below(3) == 0 ? below(2) == 0 ? "\n" : "  " : " ";
    }

    private String simpleOrder() {
        int kind = below(10) == 0 ? 14 : below(14);
        kind = kind == 11 || kind == 12 ? 2 : kind;
        return orderOf(kind, "");
    }

    private String orderOf(int kind, String goal) {
        String operand = kind == 0 ? "" + below(12) : kind == 9 || kind == 10 ? "" + below(8) : goal;
        return WORDS[kind] + (operand.isEmpty() ? "" : blank() + operand) + ";" + (below(3) == 0 ? blank() : "");
    }

    /** Orders as they come, with marks here and there, and jumps to them. */
    private String looseProgram() {
        StringBuilder text = new StringBuilder();
        int orders = 1 + below(below(5) == 0 ? 100 : 20);
        int marks = 1 + below(4);
        for (int i = 0; i < orders && text.length() < 560; i++) {
            if (i < marks) {
                text.append((char) ('a' + i)).append(blank()).append(":");
            }
            if (below(5) == 0) {
                text.append(orderOf(11 + below(2), "" + (char) ('a' + below(Math.min(marks, orders)))));
            } else {
                text.append(simpleOrder());
            }
        }
        return text.toString();
    }

    /** Loops in one another, each counted down in a cell of its own. */
    private String countingLoops(int depth) {
        StringBuilder text = new StringBuilder();
        loop(text, depth);
        if (below(3) > 0) {
            text.append("halt;");
        }
        return text.toString();
    }

    private void loop(StringBuilder text, int depth) {
        char mark = (char) ('a' + depth);
        text.append("push ").append(1 + below(depth > 1 ? 14 : 30)).append(";set ").append(depth).append(";");
        text.append(mark).append(":");
        work(text);
        if (depth > 1) {
            loop(text, depth - 1);
        }
        if (below(3) == 0) {
            text.append("get ").append(depth).append(";push 5;less;zero s").append(mark).append(";");
            work(text);
            text.append("s").append(mark).append(":");
        }
        text.append("get ").append(depth).append(";push 1;sub;dup;set ").append(depth).append(";");
        if (below(2) == 0) {
            text.append("zero e").append(mark).append(";jump ").append(mark).append(";e").append(mark).append(":jump f");
            text.append(mark).append(";f").append(mark).append(":");
        } else {
            text.append("push 1;less;zero ").append(mark).append(";");
        }
        work(text);
    }

    private void work(StringBuilder text) {
        String[] works = {"get 0;out;", "push 3;dup;mul;drop;", "dup;drop;", "get 0;push 7;add;set 0;", "jump", "swap;swap;",
            "push 2;over;less;set 7;"};
        String work = works[below(works.length)];
        if (work.equals("jump")) {
            String mark = "j" + (char) ('a' + below(26)) + (char) ('a' + below(26)) + (char) ('a' + below(26));
            text.append("jump ").append(mark).append(";").append(mark).append(":");
            work = "dup;drop;";
        }
        text.append(work);
    }

    /** Jumps to and fro by the bits of a number that changes, so that traces are left often. */
    private String tangledLoops() {
        StringBuilder text = new StringBuilder();
        int marks = 2 + below(5);
        int step = 1 + below(90);
        for (int i = 0; i < marks; i++) {
            text.append((char) ('a' + i)).append(":get 0;push ").append(step).append(";add;dup;set 0;");
            text.append("push ").append(1 + below(999)).append(";mul;push ").append(1 + below(99)).append(";less;");
            text.append("zero ").append((char) ('a' + below(marks))).append(";");
            if (below(4) == 0) {
                text.append("jump ").append((char) ('a' + below(marks))).append(";");
            }
        }
        text.append("jump a;");
        return text.toString();
    }

    /** As tangled loops, but a zero stands at each mark: it takes what the way there left for it. */
    private String tangledZeros() {
        StringBuilder text = new StringBuilder();
        int marks = 2 + below(4);
        for (int i = 0; i < marks; i++) {
            String ownMark = "" + (char) ('a' + i);
            text.append(ownMark).append(":zero x").append(ownMark).append(";x").append(ownMark).append(":");
            text.append("get 0;push ").append(1 + below(90)).append(";add;dup;dup;set 0;");
            text.append("push ").append(1 + below(99)).append(";less;swap;");
            text.append("push ").append(1 + below(999)).append(";mul;push ").append(1 + below(99)).append(";less;");
            text.append("zero ").append((char) ('a' + below(marks))).append(";");
        }
        text.append("jump a;");
        return text.toString();
    }

    /** A loop of some forty steps. */
    private String longLoop() {
        StringBuilder text = new StringBuilder("a:jump b;b:");
        int pairs = 17 + below(4);
        for (int i = 0; i < pairs; i++) {
            text.append("dup;drop;");
        }
        if (below(2) == 0) {
            text.append("jump c;c:");
        }
        text.append("jump a;");
        return text.toString();
    }

    private String spoiled(String text) {
        StringBuilder spoiled = new StringBuilder(text);
        String signs = ":;?a5 \nzA~\u00ff\u0000";
        int times = 1 + below(2);
        for (int i = 0; i < times && spoiled.length() > 1; i++) {
            int at = below(spoiled.length());
            switch (below(5)) {
                case 0:
                    spoiled.deleteCharAt(at);
                    break;
                case 1:
                    spoiled.insert(at, signs.charAt(below(signs.length())));
                    break;
                case 2:
                    spoiled.setLength(at);
                    break;
                case 3:
                    spoiled.setCharAt(at, signs.charAt(below(signs.length())));
                    break;
                default:
                    spoiled.insert(at, WORDS[below(15)] + ";:" .charAt(below(2)));
                    break;
            }
        }
        return spoiled.toString();
    }

    private void tellText(String text) {
        if (model.count(2) > 0) {
            same("program(0)", real.program(0), model.program(0));
        }
        String padded = text + " ".repeat((20 - text.length() % 20) % 20);
        for (int at = 0; at < padded.length(); at += 20) {
            int[] n = new int[5];
            for (int i = 0; i < 5; i++) {
                n[i] = Check.four(padded, at + 4 * i);
            }
            same("feed", real.feed(n[0], n[1], n[2], n[3], n[4]), model.feed(n));
        }
        if (text.length() <= 600) {
            same("program of '" + text + "'", real.program(text.length()), model.program(text.length()));
            same("trouble()", real.trouble(), model.trouble());
            same("fault()", real.fault(), model.fault());
            same("where()", real.where(), model.where());
            programsRead += model.fault() == 0 ? 1 : 0;
            faultsSeen += model.fault() != 0 ? 1 : 0;
        }
    }

    private int number(int usual) {
        return below(8) == 0 ? ODD[below(ODD.length)] : below(usual);
    }

    private int fuel() {
        return below(3) == 0 ? 1 + below(200) : below(3) == 0 ? ODD[below(ODD.length)] : 1 + below(5000);
    }

    private void anyCalls(int times) {
        for (int i = 0; i < times; i++) {
            anyCall(below(22));
        }
    }

    private void anyCall(int which) {
        int a = number(15);
        int b = number(15);
        int fuel = fuel();
        int heart = below(2) == 0 ? 4 : number(5);
        switch (which) {
            case 0 -> same("feed", real.feed(a, b, fuel, heart, 5), model.feed(a, b, fuel, heart, 5));
            case 1 -> {
                int n = below(2) == 0 ? -1 : 601;
                same("program(" + n + ")", real.program(n), model.program(n));
            }
            case 2 -> {
                calls++;
                real.input(a);
                model.input(a);
            }
            case 3, 4, 5 -> same("join(" + a + "," + b + ")", real.join(a, b), model.join(a, b));
            case 6 -> {
                if (below(3) == 0) {
                    same("part()", real.part(), model.part());
                }
            }
            case 7 -> same("joined()", real.joined(), model.joined());
            case 8, 9, 10, 11 -> {
                same("run(" + heart + "," + fuel + ")", real.run(heart, fuel), model.run(heart, fuel));
                tracesSeen += Math.max(0, model.traces());
                same("traces()", real.traces(), model.traces());
            }
            case 12 -> same("told(" + a + ")", real.told(a), model.told(a));
            case 13 -> same("cost(" + heart + "," + fuel + ")", real.cost(heart, fuel), model.cost(heart, fuel));
            case 14 -> same("cheapest(" + fuel + ")", real.cheapest(fuel), model.cheapest(fuel));
            case 15, 16 -> same("gain(" + fuel + ")", real.gain(fuel), model.gain(fuel));
            case 17 -> same("better()", real.better(), model.better());
            case 18 -> same("most()", real.most(), model.most());
            case 19 -> same("count(" + a + ")", real.count(a), model.count(a));
            case 20 -> same("where()", real.where(), model.where());
            default -> same("trouble()", real.trouble(), model.trouble());
        }
    }

    private void askSome() {
        for (int what = -1; what < 7; what++) {
            same("told(" + what + ")", real.told(what), model.told(what));
        }
        for (int i = -1; i < 62; i += 1 + below(8)) {
            same("out(" + i + ")", realOut(i), orGone(model.out(i)));
        }
        for (int i = -1; i < 34; i += 1 + below(6)) {
            same("pile(" + i + ")", realPile(i), orGone(model.pile(i)));
        }
        for (int i = -1; i < 17; i += 1 + below(3)) {
            same("cell(" + i + ")", real.cell(i), model.cell(i));
            same("did(" + i + ")", real.did(i), model.did(i));
            int k = number(15);
            same("follows(" + i + "," + k + ")", real.follows(i, k), model.follows(i, k));
        }
        for (int place = -1; place < 102; place += 1 + below(10)) {
            int what = below(5) - 1;
            same("order(" + place + "," + what + ")", real.order(place, what), model.order(place, what));
            same("trace(" + place + ")", real.trace(place), model.trace(place));
        }
        int odd = ODD[below(ODD.length)];
        same("trace(" + odd + ")", real.trace(odd), model.trace(odd));
        same("order(" + odd + ",0)", real.order(odd, 0), model.order(odd, 0));
        same("cell(" + odd + ")", real.cell(odd), model.cell(odd));
        same("better()", real.better(), model.better());
        same("most()", real.most(), model.most());
        same("joined()", real.joined(), model.joined());
        for (int what = -1; what < 4; what++) {
            same("count(" + what + ")", real.count(what), model.count(what));
        }
    }

    private static long orGone(Integer number) {
        return number == null ? Long.MAX_VALUE : number;
    }

    private long realOut(int i) {
        try {
            return real.out(i);
        } catch (NoSuchElementException e) {
            return Long.MAX_VALUE;
        }
    }

    private long realPile(int i) {
        try {
            return real.pile(i);
        } catch (NoSuchElementException e) {
            return Long.MAX_VALUE;
        }
    }
}
