/** Costs of the five hearts, worked out by hand from the document's words (promises 10, 11, 19 to 24). */
final class HeartTest {
    private static final Check CHECK = new Check("HeartTest");

    public static void main(String[] args) {
        plain();
        joined();
        kept();
        traces();
        longTraces();
        leavingTraces();
        cheapest();
        gain();
        CHECK.end();
    }

    private static StepperHearts told(String text) {
        StepperHearts x = new StepperHearts();
        CHECK.isTrue("'" + text + "' is a program", Check.tell(x, text) > 0);
        return x;
    }

    private static void costs(StepperHearts x, int heart, int fuel, int want) {
        CHECK.due("cost(" + heart + ", " + fuel + ")", x.cost(heart, fuel), want);
        x.run(heart, fuel);
        CHECK.due("told(1) of run(" + heart + ", " + fuel + ")", x.told(1), want);
    }

    private static void plain() {
        String[] texts = {"push 1;", "drop;", "dup;", "get 1;", "set 1;", "a: jump a;", "zero a; a: out;", "out;", "halt;"};
        int[] own = {2, 2, 4, 2, 2, 1, 2, 2, 1};
        for (int i = 0; i < texts.length; i++) {
            StepperHearts x = told(texts[i]);
            costs(x, 0, 1, 6 + own[i]);
            costs(x, 1, 1, 4 + own[i]);
        }
        String[] twos = {"swap", "over", "add", "sub", "mul", "less"};
        int[] ownOfTwos = {5, 6, 4, 4, 6, 4};
        for (int i = 0; i < twos.length; i++) {
            StepperHearts x = told("dup; " + twos[i] + ";");
            costs(x, 0, 2, 10 + 6 + ownOfTwos[i]);
            costs(x, 1, 2, 8 + 4 + ownOfTwos[i]);
        }
        StepperHearts x = told("swap;");
        costs(x, 0, 9, 0);
        costs(x, 4, 9, 0);
    }

    private static void joined() {
        // a pair in a loop, entered behind its first by nothing else: 4 less a round
        StepperHearts x = told("l: push 1; drop; jump l;");
        costs(x, 2, 30, 10 * (6 + 6 + 5));
        x.join(0, 1);
        costs(x, 2, 30, 10 * (6 + 2 + 5));
        costs(x, 2, 31, 10 * (6 + 2 + 5) + 6);
        costs(x, 1, 30, 10 * (6 + 6 + 5));
        // joins of later places go by the first that joins from the left
        x = told("dup; dup; drop; halt;");
        costs(x, 2, 9, 8 + 8 + 6 + 5);
        x.join(2, 1);
        costs(x, 2, 9, 8 + 8 + 2 + 5);
        x.join(2, 2);
        costs(x, 2, 9, 8 + 4 + 6 + 5);
        // a second place is never reached by a jump
        x = told("jump a; a: drop; halt;");
        x.join(11, 1);
        x.join(1, 14);
        costs(x, 2, 9, 5 + 6 + 1);
    }

    private static void kept() {
        StepperHearts x = told("push 2; push 3; mul; set 1; halt;");
        costs(x, 3, 99, 5 + 6 + 8 + 5 + 5);
        // not kept: dup puts some, 1 less; kept then: dup 2 less
        x = told("dup; dup; drop; drop; halt;");
        costs(x, 3, 1, 7);
        costs(x, 3, 2, 7 + 6);
        costs(x, 3, 3, 7 + 6 + 5);
        costs(x, 3, 4, 7 + 6 + 5 + 6);
        costs(x, 3, 5, 7 + 6 + 5 + 6 + 5);
        // jump and halt keep it as it was
        x = told("get 1; jump a; a: out; jump b; b: push 1; halt;");
        costs(x, 3, 99, 5 + 5 + 5 + 5 + 5 + 5);
    }

    private static void traces() {
        StepperHearts x = told("a: jump a;");
        costs(x, 4, 9, 45);
        costs(x, 4, 10, 46);
        costs(x, 4, 5000, 45 + 4991);
        x = told("l: push 0; zero l;");
        costs(x, 4, 18, 18 * 6);
        CHECK.due("traces", x.traces(), 0);
        costs(x, 4, 19, 18 * 6 + 2);
        CHECK.due("traces", x.traces(), 1);
        CHECK.due("trace(0)", x.trace(0), 2);
        costs(x, 4, 20, 18 * 6 + 2 + 3);
        costs(x, 4, 22, 18 * 6 + 2 + 3 + 2 + 3);
        // the next step is not done: no trace yet (the pile is full)
        x = told("l: push 1; jump l;");
        x.run(4, 18);
        CHECK.due("traces", x.traces(), 0);
        // seven rounds back are too few, and jumps ahead don't count
        x = told("push 8; l: push 1; sub; dup; zero e; jump l; e: halt;");
        x.run(4, 5000);
        CHECK.due("traces", x.traces(), 0);
        CHECK.due("cost as routines", x.told(1), x.cost(1, 5000));
        x = told("push 9; l: push 1; sub; dup; zero e; jump l; e: halt;");
        x.run(4, 5000);
        CHECK.due("the row ends with the run", x.traces(), 0);
        x = told("push 10; l: push 1; sub; dup; zero e; jump l; e: halt;");
        x.run(4, 5000);
        CHECK.due("traces", x.traces(), 1);
    }

    private static void longTraces() {
        String pairs = Check.repeat("dup;drop;", 19);
        StepperHearts x = told("l: jump m; m: " + pairs + "jump l;");
        CHECK.due("run", x.run(4, 360), 1);
        CHECK.due("traces", x.traces(), 0);
        CHECK.due("run", x.run(4, 361), 1);
        CHECK.due("traces", x.traces(), 1);
        CHECK.due("trace(0)", x.trace(0), 40);
        CHECK.due("the first step of it saves 4", x.cost(1, 361) - x.cost(4, 361), 4);
        x = told("l: jump m; m: jump n; n: " + pairs + "jump l;");
        CHECK.due("run", x.run(4, 5000), 1);
        CHECK.due("41 steps are too many", x.traces(), 0);
        CHECK.due("it never gets one", x.cost(4, 5000), x.cost(1, 5000));
    }

    private static void leavingTraces() {
        // 100 rounds; the last zero jumps out to halt: a step that isn't the next one costs 10 more
        StepperHearts x = told("push 100; l: push 1; sub; dup; zero e; jump l; e: halt;");
        int ahead = 6 + 9 * (6 + 8 + 8 + 6 + 5);
        int within = 90 * (2 + 4 + 4 + 3 + 1) + (2 + 4 + 4 + 3);
        int halt = 10 + 5;
        costs(x, 4, 5000, ahead + within + halt);
        // an inner loop with a trace inside an outer one: out of it, and into it again
        x = told("o: push 2; l: push 1; sub; dup; zero e; jump l; e: drop; jump o;");
        x.run(4, 5000);
        CHECK.due("run", x.told(0), 5000);
        CHECK.isTrue("the inner place has a trace", x.trace(1) > 0);
    }

    private static void cheapest() {
        StepperHearts x = told("jump a; a: halt;");
        CHECK.due("of as cheap ones the least", x.cheapest(9), 1);
        x = told("swap;");
        CHECK.due("all cost 0", x.cheapest(9), 0);
        x = told("dup; drop; halt;");
        CHECK.due("kept", x.cheapest(9), 3);
        x.join(2, 1);
        x.join(1, 14);
        CHECK.due("joined", x.cheapest(9), 2);
        x.part();
        CHECK.due("kept again", x.cheapest(9), 3);
        x = told("a: jump a;");
        CHECK.due("too short for a trace", x.cheapest(9), 1);
        CHECK.due("traces", x.cheapest(10), 4);
    }

    private static void gain() {
        StepperHearts x = told("l: push 1; drop; jump l;");
        CHECK.due("better ahead", x.better(), -1);
        CHECK.due("gain", x.gain(1), 0);
        CHECK.due("better behind 0", x.better(), -1);
        CHECK.due("gain", x.gain(30), 40);
        CHECK.due("the least of the best", x.better(), 1);
        CHECK.due("gain of (1, 11) is as much", x.gain(2), 4);
        x.join(0, 1);
        CHECK.due("gain: what is joined isn't joined again", x.gain(30), 0);
        CHECK.due("better stays", x.better(), 1);
        x.part();
        x.join(1, 11);
        // (0, 1) takes the drop from (1, 11): nothing is won
        CHECK.due("gain", x.gain(30), 0);
        x.part();
        for (int i = 0; i < 10; i++) {
            x.join(14, i);
        }
        CHECK.due("an eleventh", x.gain(30), 40);
        CHECK.due("ten stay", x.count(1), 10);
        CHECK.due("joined stays", x.joined(), 0);
        CHECK.due("refused", x.gain(0), -1);
        CHECK.due("better stays", x.better(), 1);
        Check.tell(x, "push 1; out; halt;");
        CHECK.due("gain", x.gain(9), 4);
        CHECK.due("better", x.better(), 13);
        CHECK.due("no run was made", x.told(0), -1);
        Check.tell(x, "push 1; push 2; halt;");
        CHECK.due("gain", x.gain(9), 4);
        CHECK.due("the pair of the least number", x.better(), 0);
        Check.tell(x, "dup; halt;");
        CHECK.due("gain", x.gain(9), 4);
        CHECK.due("the second is the last kind", x.better(), 214);
    }
}
