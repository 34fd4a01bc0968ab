/** Each promise by its number: ordinary inputs, edges, wrong inputs. */
final class PromiseTest {
    private static final Check CHECK = new Check("PromiseTest");

    public static void main(String[] args) {
        newObject();
        feed();
        program();
        order();
        input();
        joins();
        joined();
        ends();
        tops();
        orders();
        outs();
        pileAndCells();
        didAndFollows();
        most();
        traces();
        refusals();
        latestRunStays();
        CHECK.end();
    }

    private static void due(String call, long got, long want) {
        CHECK.due(call, got, want);
    }

    private static StepperHearts told(String text) {
        StepperHearts x = new StepperHearts();
        CHECK.isTrue("'" + text + "' is a program", Check.tell(x, text) > 0);
        return x;
    }

    private static void newObject() {
        StepperHearts x = new StepperHearts();
        due("NONE", StepperHearts.NONE, -1);
        due("orders of a new one", x.count(0), 0);
        due("joins of a new one", x.count(1), 0);
        due("bytes of a new one", x.count(2), 0);
        due("count(3)", x.count(3), -1);
        due("count(-1)", x.count(-1), -1);
        due("trouble", x.trouble(), 0);
        due("part", x.part(), 0);
        due("order", x.order(0, 0), -1);
        due("did", x.did(0), -1);
        due("follows", x.follows(0, 0), -1);
        due("trace", x.trace(0), -1);
        due("cell", x.cell(0), 0);
        due("better", x.better(), -1);
        due("trouble behind those", x.trouble(), 0);
        CHECK.noOut(x, 0);
        CHECK.noPile(x, 0);
    }

    private static void feed() {
        StepperHearts x = new StepperHearts();
        due("feed", x.feed('o' << 24 | 'u' << 16 | 't' << 8 | ';', 0, 0, 0, 0), 20);
        due("program(4)", x.program(4), 1);
        due("kind", x.order(0, 0), 13);
        for (int i = 1; i <= 30; i++) {
            due("feed " + i, x.feed(0x80808080, -1, 0x20202020, 0x0a0a0a0a, 0x20202020), 20 * i);
        }
        due("feed beyond", x.feed(1, 2, 3, 4, 5), -1);
        due("bytes", x.count(2), 600);
        due("a high byte begins no token", x.program(600), -1);
        due("where", x.where(), 0);
        due("bytes", x.count(2), 0);
    }

    private static void program() {
        StepperHearts x = new StepperHearts();
        Check.feedText(x, "out; drop; swap;");
        due("program(10)", x.program(10), 2);
        due("what is behind is gone", x.count(2), 0);
        due("orders", x.count(0), 2);
        due("order(2, 0)", x.order(2, 0), -1);
        due("program of another", Check.tell(x, "add; sub; mul;"), 3);
        due("order(0, 0)", x.order(0, 0), 5);
        due("order(2, 0)", x.order(2, 0), 7);
    }

    private static void order() {
        StepperHearts x = told("push 12; drop; dup; swap; over; add; sub; mul; less; get 3; set 7; a: jump b; "
            + "b: zero a; out; halt;");
        for (int kind = 0; kind < 15; kind++) {
            due("kind of " + kind, x.order(kind, 0), kind);
            int own = kind == 0 ? 12 : kind == 9 ? 3 : kind == 10 ? 7 : kind == 11 ? 12 : kind == 12 ? 11 : 0;
            due("operand of " + kind, x.order(kind, 1), own);
            due("mark of " + kind, x.order(kind, 2), kind == 11 || kind == 12 ? 1 : 0);
        }
        due("order(15, 0)", x.order(15, 0), -1);
        due("order(-1, 0)", x.order(-1, 0), -1);
        due("order(0, 3)", x.order(0, 3), -1);
        due("order(0, -1)", x.order(0, -1), -1);
        due("trouble is that of program()", x.trouble(), 0);
        due("a former mark isn't kept", Check.tell(x, Check.repeat("out;", 20)), 20);
        due("order(11, 2)", x.order(11, 2), 0);
        due("order(11, 1)", x.order(11, 1), 0);
    }

    private static void input() {
        StepperHearts x = told("out; halt;");
        due("run", x.run(1, 9), 0);
        CHECK.dueOut(x, 0, 0);
        x.input(Integer.MIN_VALUE);
        CHECK.dueOut(x, 0, 0);
        due("run", x.run(1, 9), 0);
        CHECK.dueOut(x, 0, Integer.MIN_VALUE);
        due("it stays for the next run", x.run(0, 1), 1);
        CHECK.dueOut(x, 0, Integer.MIN_VALUE);
        x.input(41);
        Check.tell(x, "halt;");
        due("run", x.run(4, 9), 0);
        CHECK.duePile(x, 0, 41);
    }

    private static void joins() {
        StepperHearts x = new StepperHearts();
        due("join(0, 0)", x.join(0, 0), 1);
        due("join(0, 0)", x.join(0, 0), -1);
        due("trouble", x.trouble(), 2);
        due("join(14, 14)", x.join(14, 14), 2);
        due("trouble", x.trouble(), 0);
        due("join(0, 14)", x.join(0, 14), 3);
        due("join(14, 0)", x.join(14, 0), 4);
        int[][] wrong = {{-1, 0}, {0, -1}, {15, 0}, {0, 15}, {Integer.MIN_VALUE, 0}, {0, Integer.MAX_VALUE}};
        for (int[] pair : wrong) {
            due("join(" + pair[0] + ", " + pair[1] + ")", x.join(pair[0], pair[1]), -1);
            due("trouble", x.trouble(), 1);
        }
        for (int i = 1; i <= 6; i++) {
            due("join(3, " + i + ")", x.join(3, i), 4 + i);
        }
        due("an eleventh", x.join(3, 7), -1);
        due("trouble", x.trouble(), 2);
        due("a wrong one ahead of no room", x.join(3, 15), -1);
        due("trouble", x.trouble(), 1);
        due("joins", x.count(1), 10);
        due("joins stay with another program", Check.tell(x, "halt;"), 1);
        due("joins", x.count(1), 10);
        due("part", x.part(), 10);
        due("joins", x.count(1), 0);
        due("join(0, 0)", x.join(0, 0), 1);
    }

    private static void joined() {
        StepperHearts x = new StepperHearts();
        due("joined()", x.joined(), -1);
        due("trouble", x.trouble(), 4);
        Check.tell(x, "dup; dup; dup; dup; dup; halt;");
        due("joined()", x.joined(), 0);
        due("trouble", x.trouble(), 0);
        x.join(2, 2);
        due("two pairs of five", x.joined(), 2);
        x.join(2, 14);
        due("the last and halt", x.joined(), 3);
        Check.tell(x, "dup; a: dup; dup; halt;");
        due("none over a mark", x.joined(), 1);
        Check.tell(x, "a: dup; dup; b: halt;");
        due("a mark at the first does no harm", x.joined(), 1);
        x.part();
        x.join(0, 2);
        x.join(2, 1);
        Check.tell(x, "push 1; dup; drop; halt;");
        due("from the left", x.joined(), 1);
        x.join(1, 14);
        due("from the left", x.joined(), 2);
        Check.tell(x, Check.repeat("dup;", 99) + "drop;");
        due("at the last place", x.joined(), 1);
    }

    /** The end, the steps, the place of a run by each heart. */
    private static void end(String text, int fuel, int end, int steps, int place) {
        for (int heart = 0; heart < 5; heart++) {
            StepperHearts x = told(text);
            String run = "run(" + heart + ", " + fuel + ") of '" + text + "'";
            due(run, x.run(heart, fuel), end);
            due(run + " steps", x.told(0), steps);
            due(run + " place", x.told(4), place);
        }
    }

    private static void ends() {
        end("halt;", 1, 0, 1, 0);
        end("dup; halt;", 1, 1, 1, 1);
        end("dup; halt;", 2, 0, 2, 1);
        end("dup;", 1, 4, 1, 1);
        end("dup;", 5000, 4, 1, 1);
        end("a: jump a;", 5000, 1, 5000, 0);
        end("drop; drop;", 1, 1, 1, 1);
        end("drop; drop;", 2, 2, 1, 1);
        end("drop; dup;", 9, 2, 1, 1);
        end("swap;", 9, 2, 0, 0);
        end("over;", 9, 2, 0, 0);
        end("add;", 9, 2, 0, 0);
        end("sub;", 9, 2, 0, 0);
        end("mul;", 9, 2, 0, 0);
        end("less;", 9, 2, 0, 0);
        end("drop; set 1;", 9, 2, 1, 1);
        end("drop; out;", 9, 2, 1, 1);
        end("drop; a: zero a;", 9, 2, 1, 1);
        end("drop; get 1; get 1; add; out; halt;", 9, 0, 6, 5);
        end("a: push 1; jump a;", 99, 3, 62, 0);
        end(Check.repeat("dup;", 31) + "halt;", 99, 0, 32, 31);
        end(Check.repeat("dup;", 31) + "over;", 99, 3, 31, 31);
        end(Check.repeat("dup;", 31) + "get 0;", 99, 3, 31, 31);
        end(Check.repeat("dup;", 31) + "swap; add; dup; dup;", 99, 3, 34, 34);
        end("jump a; drop; a: halt;", 9, 0, 2, 2);
        end("zero a; drop; a: halt;", 9, 0, 2, 2);
        end("push 1; zero a; halt; a: drop;", 9, 0, 3, 2);
    }

    private static void tops() {
        StepperHearts x = told("push 1; push 2; drop; drop; drop;");
        due("run", x.run(0, 99), 4);
        due("on the pile", x.told(2), 0);
        due("the most at once", x.told(5), 3);
        due("run", x.run(0, 1), 1);
        due("on the pile", x.told(2), 2);
        due("the most at once", x.told(5), 2);
        Check.tell(x, "drop; halt;");
        due("run", x.run(0, 9), 0);
        due("the input counts", x.told(5), 1);
        Check.tell(x, "drop; push 1; push 2; swap; over; add; mul; halt;");
        due("run", x.run(0, 99), 0);
        due("the most at once", x.told(5), 3);
        due("told(-1)", x.told(-1), -1);
        due("trouble", x.trouble(), 1);
        due("told(6)", x.told(6), -1);
        due("told(0)", x.told(0), 8);
        due("trouble", x.trouble(), 0);
    }

    private static void gives(String text, int... pile) {
        for (int heart = 0; heart < 5; heart++) {
            StepperHearts x = told(text);
            x.input(77);
            x.run(heart, 5000);
            String run = "heart " + heart + " of '" + text + "'";
            due(run + " leaves", x.told(2), pile.length);
            for (int i = 0; i < pile.length && i < x.told(2); i++) {
                CHECK.duePile(x, i, pile[i]);
            }
        }
    }

    private static void orders() {
        gives("push 999;", 77, 999);
        gives("push 5; drop;", 77);
        gives("dup;", 77, 77);
        gives("push 1; swap;", 1, 77);
        gives("push 1; over;", 77, 1, 77);
        gives("push 1; add;", 78);
        gives("push 1; sub;", 76);
        gives("push 2; mul;", 154);
        gives("push 78; less;", 1);
        gives("push 77; less;", 0);
        gives("push 76; less;", 0);
        gives("push 0; push 1; sub; less;", 0);
        gives("set 3; get 3; get 4;", 77, 0);
        gives("set 0; push 1; set 0; get 0;", 1);
        gives("push 0; zero a; push 1; a: push 2;", 77, 2);
        gives("push 3; zero a; push 1; a: push 2;", 77, 1, 2);
        gives("jump a; push 1; a: push 2;", 77, 2);
        gives("drop; halt; push 1;");
        gives("push 256; dup; mul; dup; mul;", 77, 0);
        gives("push 32; push 512; dup; mul; dup; push 128; mul; mul; drop; drop; push 256; push 256; mul; "
            + "push 256; mul; push 128; mul; dup; push 1; sub;", 77, Integer.MIN_VALUE, Integer.MAX_VALUE);
    }

    private static void outs() {
        StepperHearts x = told("push 3; out; push 4; out; halt;");
        x.run(2, 99);
        due("outs", x.told(3), 2);
        CHECK.dueOut(x, 0, 3);
        CHECK.dueOut(x, 1, 4);
        CHECK.noOut(x, 2);
        CHECK.noOut(x, -1);
        CHECK.noOut(x, Integer.MAX_VALUE);
        CHECK.noOut(x, Integer.MIN_VALUE);
        Check.tell(x, "l: push 1; add; dup; out; jump l;");
        due("run", x.run(0, 300), 1);
        due("outs", x.told(3), 60);
        CHECK.dueOut(x, 59, 60);
        CHECK.noOut(x, 60);
        due("run", x.run(0, 600), 1);
        due("lost ones, too", x.told(3), 120);
        CHECK.dueOut(x, 59, 60);
        CHECK.noOut(x, 60);
        CHECK.noOut(x, 119);
        due("run", x.run(0, 1), 1);
        due("outs of the latest run alone", x.told(3), 0);
        CHECK.noOut(x, 0);
        due("out doesn't touch trouble", x.trouble(), 0);
    }

    private static void pileAndCells() {
        StepperHearts x = told("push 1; push 2; set 0; push 3; set 7; push 9; halt;");
        x.input(5);
        x.run(3, 99);
        CHECK.duePile(x, 0, 5);
        CHECK.duePile(x, 1, 1);
        CHECK.duePile(x, 2, 9);
        CHECK.noPile(x, 3);
        CHECK.noPile(x, -1);
        CHECK.noPile(x, 32);
        CHECK.noPile(x, Integer.MIN_VALUE);
        due("cell(0)", x.cell(0), 2);
        due("cell(7)", x.cell(7), 3);
        due("cell(1)", x.cell(1), 0);
        due("cell(8)", x.cell(8), 0);
        due("cell(-1)", x.cell(-1), 0);
        due("cell(min)", x.cell(Integer.MIN_VALUE), 0);
        x.run(3, 1);
        due("cells begin with 0", x.cell(0), 0);
        CHECK.noPile(x, 2);
        Check.tell(x, "l: dup; jump l;");
        x.run(1, 500);
        CHECK.duePile(x, 31, 5);
        CHECK.noPile(x, 32);
    }

    private static void didAndFollows() {
        StepperHearts x = told("push 2; l: push 1; sub; dup; zero e; jump l; e: halt;");
        x.run(4, 5000);
        due("did(0)", x.did(0), 3);
        due("did(6)", x.did(6), 2);
        due("did(12)", x.did(12), 2);
        due("did(11)", x.did(11), 1);
        due("did(14)", x.did(14), 1);
        due("did(1)", x.did(1), 0);
        due("did(15)", x.did(15), -1);
        due("did(-1)", x.did(-1), -1);
        due("follows(0, 6)", x.follows(0, 6), 2);
        due("follows(0, 0)", x.follows(0, 0), 1);
        due("follows(12, 11)", x.follows(12, 11), 1);
        due("follows(12, 14)", x.follows(12, 14), 1);
        due("follows(11, 0)", x.follows(11, 0), 1);
        due("follows(6, 0)", x.follows(6, 0), 0);
        due("follows(15, 0)", x.follows(15, 0), -1);
        due("follows(0, 15)", x.follows(0, 15), -1);
        due("follows(-1, 0)", x.follows(-1, 0), -1);
        due("follows(0, -1)", x.follows(0, -1), -1);
        Check.tell(x, "dup; add; add;");
        due("run", x.run(0, 9), 2);
        due("one that wasn't done isn't counted", x.did(5), 1);
        due("nor does it follow", x.follows(5, 5), 0);
        due("of the latest run alone", x.did(0), 0);
        due("of the latest run alone", x.follows(0, 6), 0);
        due("the first step follows none of the former run", x.follows(14, 2), 0);
    }

    private static void most() {
        StepperHearts x = told("halt;");
        due("most ahead", x.most(), -1);
        due("trouble", x.trouble(), 5);
        x.run(0, 9);
        due("none followed", x.most(), -2);
        due("trouble", x.trouble(), 0);
        Check.tell(x, "dup; drop; dup; drop; dup; drop; dup; halt;");
        x.run(0, 99);
        due("the least of as frequent ones", x.most(), 102);
        x.run(0, 99);
        due("again", x.most(), 102);
        Check.tell(x, "dup; drop; dup; drop; halt;");
        x.run(0, 99);
        due("the most frequent", x.most(), 201);
        Check.tell(x, "a: jump a;");
        x.run(0, 3);
        due("of one kind", x.most(), 1111);
        Check.tell(x, "push 1; push 2;");
        x.run(0, 3);
        due("the pair of the least number, once", x.most(), 0);
    }

    private static void traces() {
        StepperHearts x = told("a: jump a;");
        due("traces ahead", x.traces(), -1);
        due("trouble", x.trouble(), 5);
        x.run(4, 9);
        due("traces", x.traces(), 0);
        due("trace(0)", x.trace(0), 0);
        x.run(4, 10);
        due("traces", x.traces(), 1);
        due("trouble", x.trouble(), 0);
        due("trace(0)", x.trace(0), 1);
        due("trace(1)", x.trace(1), -1);
        due("trace(-1)", x.trace(-1), -1);
        due("trace(100)", x.trace(100), -1);
        due("trace(max)", x.trace(Integer.MAX_VALUE), -1);
        due("trouble stays", x.trouble(), 0);
        Check.tell(x, "halt; halt; halt;");
        due("of the program that was run", x.trace(1), -1);
        due("of the program that was run", x.trace(0), 1);
        for (int heart = 0; heart < 4; heart++) {
            due("run", x.run(heart, 50), 0);
            due("traces by other hearts", x.traces(), 0);
            due("trace by other hearts", x.trace(0), 0);
            due("trace by other hearts", x.trace(2), 0);
            due("trace by other hearts", x.trace(3), -1);
        }
    }

    private static void refusals() {
        StepperHearts x = new StepperHearts();
        int[] got = {x.run(9, 0), x.trouble(), x.cost(9, 0), x.trouble(), x.cheapest(0), x.trouble(), x.gain(0),
            x.trouble(), x.told(9), x.trouble()};
        int[] want = {-1, 4, -1, 4, -1, 4, -1, 4, -1, 5};
        for (int i = 0; i < want.length; i++) {
            due("refusal " + i, got[i], want[i]);
        }
        Check.tell(x, "halt;");
        due("told behind program()", x.told(9), -1);
        due("trouble", x.trouble(), 5);
        int[][] wrong = {{-1, 1}, {5, 1}, {0, 0}, {0, 5001}, {0, -1}, {Integer.MAX_VALUE, 1}, {0, Integer.MIN_VALUE}};
        for (int[] w : wrong) {
            due("run(" + w[0] + ", " + w[1] + ")", x.run(w[0], w[1]), -1);
            due("trouble", x.trouble(), 1);
            due("told(0)", x.told(0), -1);
            due("cost(" + w[0] + ", " + w[1] + ")", x.cost(w[0], w[1]), -1);
            due("trouble", x.trouble(), 1);
        }
        int[] wrongFuel = {0, -1, 5001, Integer.MAX_VALUE, Integer.MIN_VALUE};
        for (int fuel : wrongFuel) {
            due("cheapest(" + fuel + ")", x.cheapest(fuel), -1);
            due("trouble", x.trouble(), 1);
            due("gain(" + fuel + ")", x.gain(fuel), -1);
            due("trouble", x.trouble(), 1);
        }
        due("cheapest(5000)", x.cheapest(5000), 1);
        due("trouble", x.trouble(), 0);
        due("gain(1)", x.gain(1), 0);
        due("trouble", x.trouble(), 0);
        due("cost(4, 1)", x.cost(4, 1), 5);
        due("trouble", x.trouble(), 0);
        due("nothing was run by those", x.told(0), -1);
        due("trouble", x.trouble(), 5);
        due("cost(4, 1)", x.cost(4, 1), 5);
        due("trace", x.trace(0), -1);
        due("did", x.did(14), -1);
        due("count(9)", x.count(9), -1);
        due("order(9, 9)", x.order(9, 9), -1);
        x.input(3);
        x.part();
        due("those don't touch trouble", x.trouble(), 0);
    }

    private static void latestRunStays() {
        StepperHearts x = told("a: push 1; set 1; jump a;");
        x.run(4, 100);
        x.input(9);
        Check.tell(x, "out; drop;");
        due("cost", x.cost(0, 50), 6 + 1 + 1);
        due("cheapest", x.cheapest(50), 1);
        due("gain", x.gain(50), 0);
        due("run refused", x.run(4, 0), -1);
        due("steps", x.told(0), 100);
        due("place", x.told(4), 1);
        due("outs", x.told(3), 0);
        due("pile", x.told(2), 2);
        CHECK.duePile(x, 0, 0);
        due("cell", x.cell(1), 1);
        due("did", x.did(0), 34);
        due("most", x.most(), 10);
        due("trace", x.trace(0), 3);
        due("traces", x.traces(), 1);
        due("trace", x.trace(2), 0);
    }
}
