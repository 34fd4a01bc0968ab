import java.util.NoSuchElementException;

/** Term I, BOUNDS, and 'What it is': each sentence that names a boundary has a function of its own. */
final class BoundsEdgesTest {
    private static final Check CHECK = new Check("BoundsEdgesTest");
    private static final int MIN = Integer.MIN_VALUE;
    private static final int MAX = Integer.MAX_VALUE;
    private static final int HEARTS = 5;

    public static void main(String[] args) {
        callsOfAnObject();
        feedsOfAnObject();
        joinsOfAnObject();
        laterCallsAreFreeButEnd();
        ordersOfAProgram();
        numbersOnThePile();
        sumsGoRound();
        differencesGoRound();
        productsGoRound();
        lessDoesNotGoRound();
        cellsAreEight();
        cellsBeginWithNothing();
        outsAreSixty();
        lostOuts();
        leastFuel();
        mostFuel();
        fuelBeyond();
        joinsAreTen();
        inputUntilTold();
        inputIsOnThePile();
        CHECK.end();
    }

    private static void due(String call, long got, long want) {
        CHECK.due(call, got, want);
    }

    private static void callsOfAnObject() {
        CHECK.sentence("An object is used for at most 512 calls after it has been made");
        StepperHearts x = new StepperHearts();
        int calls = 5;
        Check.feedText(x, "a: get 0; push 1; add; dup; set 0; out; jump a; " + " ".repeat(32));
        int orders = x.program(47);
        due("program(47)", orders, 7);
        for (; calls < 510; calls++) {
            int heart = calls % HEARTS;
            due("run(" + heart + ", 5000), call " + calls, x.run(heart, 5000), 1);
        }
        due("told(1), call 511", x.told(1), x.cost(4, 5000));
        x = new StepperHearts();
        for (int call = 1; call <= 511; call++) {
            due("part(), call " + call, x.part(), 0);
        }
        due("join(0, 0), call 512", x.join(0, 0), 1);
    }

    private static void feedsOfAnObject() {
        CHECK.sentence("An object is used for at most 512 calls after it has been made");
        StepperHearts x = new StepperHearts();
        for (int call = 1; call <= 511; call++) {
            due("feed, call " + call, x.feed(call, MIN, MAX, -1, 0), call <= 30 ? 20 * call : -1);
        }
        due("count(2), call 512", x.count(2), 600);
    }

    private static void joinsOfAnObject() {
        CHECK.sentence("An object is used for at most 512 calls after it has been made");
        StepperHearts x = new StepperHearts();
        for (int call = 1; call <= 511; call++) {
            int pair = call % 225;
            due("join, call " + call, x.join(pair / 15, pair % 15), call <= 10 ? call : -1);
        }
        due("count(1), call 512", x.count(1), 10);
    }

    private static void laterCallsAreFreeButEnd() {
        CHECK.sentence("what later calls answer is free; rule 7: no call may ever throw by itself");
        StepperHearts x = CHECK.told("l: get 0; push 1; add; dup; set 0; out; jump l;");
        int[] odd = {0, 1, -1, 4, 7, 14, 15, 31, 32, 59, 60, 100, 600, 5000, 5001, MIN, MIN + 1, MAX, MAX - 1};
        for (int times = 0; times < 3; times++) {
            for (int a : odd) {
                for (int b : odd) {
                    x.run(a, b);
                    x.cost(b, a);
                    x.join(a, b);
                    x.follows(a, b);
                    x.order(a, b);
                }
                x.feed(a, a, a, a, a);
                x.input(a);
                x.told(a);
                x.cell(a);
                x.did(a);
                x.trace(a);
                x.count(a);
                x.cheapest(a);
                x.gain(a);
                callThatMayThrow(x, a);
            }
            x.program(MAX);
            x.program(MIN);
            x.part();
            x.program(0);
            x.program(x.count(2));
        }
        due("fault()", x.fault() >= 0 && x.fault() <= 5 ? 1 : 0, 1);
    }

    private static void callThatMayThrow(StepperHearts x, int i) {
        int thrown = 0;
        try {
            x.out(i);
        } catch (NoSuchElementException e) {
            thrown++;
        }
        try {
            x.pile(i);
        } catch (NoSuchElementException e) {
            thrown++;
        }
        due("out and pile throw or don't", thrown >= (i < 0 ? 2 : 0) ? 1 : 0, 1);
    }

    private static void ordersOfAProgram() {
        CHECK.sentence("A PROGRAM of 100 ORDERS");
        String ninetyNine = "dup;drop;".repeat(49) + "dup;";
        StepperHearts x = CHECK.told(ninetyNine);
        due("ORDERS", x.count(0), 99);
        x = CHECK.told(ninetyNine + "m: halt;");
        due("ORDERS", x.count(0), 100);
        due("order(99, 0)", x.order(99, 0), 14);
        due("order(99, 2)", x.order(99, 2), 1);
        due("order(100, 0)", x.order(100, 0), -1);
        for (int heart = 0; heart < HEARTS; heart++) {
            due("run of all 100", x.run(heart, 5000), 0);
            due("steps", x.told(0), 100);
            due("place", x.told(4), 99);
            due("trace(99)", x.trace(99), 0);
            due("trace(100)", x.trace(100), -1);
        }
        x = new StepperHearts();
        due("101 ORDERS", Check.tell(x, ninetyNine + "m: halt; halt;"), -1);
        due("fault()", x.fault(), 5);
        x = CHECK.told("jump m;" + "dup;".repeat(98) + "m: jump m;");
        due("order(0, 1)", x.order(0, 1), 99);
        due("run in a ring at the last place", x.run(4, 5000), 1);
        due("trace(99)", x.trace(99), 1);
        due("place", x.told(4), 99);
    }

    private static void numbersOnThePile() {
        CHECK.sentence("PILE of 32 numbers");
        for (int heart = 0; heart < HEARTS; heart++) {
            StepperHearts x = CHECK.told("push 7;" + "dup;".repeat(30));
            due("run", x.run(heart, 99), 4);
            due("on the PILE", x.told(2), 32);
            due("the most", x.told(5), 32);
            CHECK.duePile(x, 0, 0);
            CHECK.duePile(x, 1, 7);
            CHECK.duePile(x, 31, 7);
            CHECK.noPile(x, 32);
            x = CHECK.told("push 7;" + "dup;".repeat(31));
            due("run", x.run(heart, 99), 3);
            due("steps", x.told(0), 31);
            due("on the PILE", x.told(2), 32);
            due("the most", x.told(5), 32);
            CHECK.noPile(x, 32);
        }
    }

    private static void top(String text, int input, int want) {
        for (int heart = 0; heart < HEARTS; heart++) {
            StepperHearts x = CHECK.told(text);
            x.input(input);
            due("run(" + heart + ") of '" + text + "' with " + input, x.run(heart, 99), 4);
            CHECK.duePile(x, x.told(2) - 1, want);
        }
    }

    private static void sumsGoRound() {
        CHECK.sentence("(ints; sums go round)");
        top("push 1; add;", MAX, MIN);
        top("push 0; add;", MAX, MAX);
        top("push 1; add;", MAX - 1, MAX);
        top("dup; add;", MAX, -2);
        top("dup; add;", MIN, 0);
        top("push 999; add;", MAX, MIN + 998);
        top("push 1; add;", -1, 0);
    }

    private static void differencesGoRound() {
        CHECK.sentence("(ints; sums go round)");
        top("push 1; sub;", MIN, MAX);
        top("push 0; sub;", MIN, MIN);
        top("push 1; sub;", MIN + 1, MIN);
        top("set 0; push 0; get 0; sub;", MIN, MIN);
        top("set 0; push 1; get 0; sub;", MIN, MIN + 1);
        top("set 0; push 0; get 0; sub;", MAX, MIN + 1);
    }

    private static void productsGoRound() {
        CHECK.sentence("(ints; sums go round)");
        top("dup; mul;", MAX, 1);
        top("dup; mul;", MIN, 0);
        top("dup; mul;", 65536, 0);
        top("dup; mul;", 46341, -2147479015);
        top("dup; mul;", 46340, 2147395600);
        top("push 2; mul;", MAX, -2);
        top("push 3; mul;", MIN, MIN);
        top("set 0; push 0; push 1; sub; get 0; mul;", MIN, MIN);
    }

    private static void lessDoesNotGoRound() {
        CHECK.sentence("(ints; sums go round)");
        top("dup; push 1; add; less;", MAX, 0);
        top("dup; push 1; add; swap; less;", MAX, 1);
        top("push 1; less;", MIN, 1);
        top("set 0; push 1; get 0; less;", MIN, 0);
        top("dup; less;", MIN, 0);
        top("dup; less;", MAX, 0);
        top("dup; push 1; sub; less;", MIN, 1);
        top("push 0; less;", -1, 1);
    }

    private static void cellsAreEight() {
        CHECK.sentence("CELLS 0 .. 7");
        StringBuilder text = new StringBuilder();
        for (int k = 0; k < 8; k++) {
            text.append("push ").append(10 + k).append("; set ").append(k).append("; ");
        }
        for (int k = 0; k < 8; k++) {
            text.append("get ").append(k).append("; ");
        }
        StepperHearts x = CHECK.told(text.toString());
        for (int heart = 0; heart < HEARTS; heart++) {
            x.run(heart, 99);
            for (int k = 0; k < 8; k++) {
                due("cell(" + k + ")", x.cell(k), 10 + k);
                CHECK.duePile(x, 1 + k, 10 + k);
            }
            due("cell(8)", x.cell(8), 0);
            due("cell(-1)", x.cell(-1), 0);
        }
        for (int k = 0; k < 8; k++) {
            CHECK.told("get " + k + "; set " + k + ";");
        }
        for (String order : new String[] {"get", "set"}) {
            StepperHearts y = new StepperHearts();
            due(order + " 8", Check.tell(y, order + " 8;"), -1);
            due("fault()", y.fault(), 4);
        }
    }

    private static void cellsBeginWithNothing() {
        CHECK.sentence("CELLS 0 .. 7 (0 as a run begins)");
        StepperHearts x = new StepperHearts();
        x.input(6);
        String sets = "";
        String gets = "drop; ";
        for (int k = 0; k < 8; k++) {
            sets += "dup; set " + k + "; ";
            gets += "get " + k + "; ";
        }
        Check.tell(x, sets);
        x.run(0, 99);
        due("cell(7)", x.cell(7), 6);
        Check.tell(x, gets);
        due("cells stay until the next run", x.cell(7), 6);
        for (int heart = 0; heart < HEARTS; heart++) {
            due("run", x.run(heart, 99), 4);
            for (int k = 0; k < 8; k++) {
                due("cell(" + k + ")", x.cell(k), 0);
                CHECK.duePile(x, k, 0);
            }
        }
        Check.tell(x, "l: get 3; push 1; add; set 3; jump l;");
        x.run(4, 10);
        due("cell(3)", x.cell(3), 2);
        x.run(4, 10);
        due("cell(3) of a second run alike", x.cell(3), 2);
        x.cost(4, 500);
        due("cell(3) behind cost", x.cell(3), 2);
    }

    private static void outsAreSixty() {
        CHECK.sentence("OUTS 60");
        StepperHearts x = CHECK.told("l: push 1; add; dup; out; jump l;");
        for (int heart = 0; heart < HEARTS; heart++) {
            x.run(heart, 5 * 58 + 4);
            due("outs", x.told(3), 59);
            CHECK.dueOut(x, 58, 59);
            CHECK.noOut(x, 59);
            x.run(heart, 5 * 59 + 4);
            due("outs", x.told(3), 60);
            for (int i = 0; i < 60; i++) {
                CHECK.dueOut(x, i, i + 1);
            }
            CHECK.noOut(x, 60);
        }
    }

    private static void lostOuts() {
        CHECK.sentence("(further ones are lost)");
        StepperHearts x = CHECK.told("l: push 1; add; dup; out; jump l;");
        for (int heart = 0; heart < HEARTS; heart++) {
            x.run(heart, 5 * 60 + 4);
            due("outs, lost ones too", x.told(3), 61);
            CHECK.dueOut(x, 0, 1);
            CHECK.dueOut(x, 59, 60);
            CHECK.noOut(x, 60);
            due("a lost out took its number all the same", x.told(2), 1);
            due("run", x.run(heart, 5000), 1);
            due("outs, lost ones too", x.told(3), 1000);
            CHECK.dueOut(x, 0, 1);
            CHECK.dueOut(x, 59, 60);
            CHECK.noOut(x, 60);
            CHECK.noOut(x, 999);
        }
    }

    private static void leastFuel() {
        CHECK.sentence("FUEL 1 .. 5,000 steps");
        StepperHearts x = CHECK.told("l: dup; drop; jump l;");
        for (int heart = 0; heart < HEARTS; heart++) {
            CHECK.taken("run(" + heart + ", 1)", x, x.run(heart, 1), 1);
            due("steps", x.told(0), 1);
            due("place", x.told(4), 1);
            due("cost(" + heart + ", 1)", x.cost(heart, 1), heart == 0 ? 10 : heart == 3 ? 7 : 8);
        }
        CHECK.taken("cheapest(1)", x, x.cheapest(1), 3);
        CHECK.taken("gain(1)", x, x.gain(1), 0);
        CHECK.taken("gain(2)", x, x.gain(2), 4);
    }

    private static void mostFuel() {
        CHECK.sentence("FUEL 1 .. 5,000 steps");
        StepperHearts x = CHECK.told("l: dup; drop; jump l;");
        for (int heart = 0; heart < HEARTS; heart++) {
            CHECK.taken("run(" + heart + ", 5000)", x, x.run(heart, 5000), 1);
            due("steps", x.told(0), 5000);
            due("dups", x.did(2), 1667);
            due("drops", x.did(1), 1667);
            due("jumps", x.did(11), 1666);
            due("place", x.told(4), 2);
            CHECK.taken("run(" + heart + ", 4999)", x, x.run(heart, 4999), 1);
            due("steps", x.told(0), 4999);
        }
        CHECK.taken("cost(0, 5000)", x, x.cost(0, 5000), 1667 * (10 + 8) + 1666 * 7);
        CHECK.taken("cost(1, 5000)", x, x.cost(1, 5000), 1667 * (8 + 6) + 1666 * 5);
        CHECK.taken("cheapest(5000)", x, x.cheapest(5000), 4);
        CHECK.taken("gain(5000)", x, x.gain(5000), 4 * 1667);
    }

    private static void fuelBeyond() {
        CHECK.sentence("FUEL 1 .. 5,000 steps");
        StepperHearts x = CHECK.told("l: dup; drop; jump l;");
        x.run(1, 77);
        for (int fuel : new int[] {0, 5001, -1, -5000, 5002, 65537, MIN, MIN + 1, MAX}) {
            for (int heart = 0; heart < HEARTS; heart++) {
                CHECK.refused("run(" + heart + ", " + fuel + ")", x, x.run(heart, fuel), 1);
                CHECK.refused("cost(" + heart + ", " + fuel + ")", x, x.cost(heart, fuel), 1);
            }
            CHECK.refused("cheapest(" + fuel + ")", x, x.cheapest(fuel), 1);
            CHECK.refused("gain(" + fuel + ")", x, x.gain(fuel), 1);
            due("steps of the latest run", x.told(0), 77);
        }
    }

    private static void joinsAreTen() {
        CHECK.sentence("JOINS told 10");
        StepperHearts x = CHECK.told("push 9; out;");
        for (int i = 1; i <= 9; i++) {
            CHECK.taken("join " + i, x, x.join(14, i), i);
        }
        CHECK.taken("join 10", x, x.join(0, 13), 10);
        due("the tenth is one", x.joined(), 1);
        CHECK.refused("join 11", x, x.join(13, 14), 2);
        due("JOINS", x.count(1), 10);
        x.part();
        for (int i = 1; i <= 10; i++) {
            CHECK.taken("join " + i, x, x.join(14, i), i);
        }
        CHECK.refused("join 11", x, x.join(0, 13), 2);
        due("the eleventh is none", x.joined(), 0);
    }

    private static void inputUntilTold() {
        CHECK.sentence("INPUT: a number that is on the PILE as a run begins (0 until told)");
        StepperHearts x = CHECK.told("halt;");
        for (int heart = 0; heart < HEARTS; heart++) {
            x.run(heart, 1);
            CHECK.duePile(x, 0, 0);
        }
        for (int v : new int[] {MAX, MIN, -1, 1, 0}) {
            x.input(v);
            x.run(0, 1);
            CHECK.duePile(x, 0, v);
        }
        x.input(3);
        x.input(4);
        x.run(0, 1);
        CHECK.duePile(x, 0, 4);
        x.run(0, 1);
        CHECK.duePile(x, 0, 4);
    }

    private static void inputIsOnThePile() {
        CHECK.sentence("INPUT: a number that is on the PILE as a run begins");
        StepperHearts x = CHECK.told("drop; drop;");
        for (int heart = 0; heart < HEARTS; heart++) {
            due("run", x.run(heart, 9), 2);
            due("steps", x.told(0), 1);
            due("the most", x.told(5), 1);
        }
        x = CHECK.told("a: zero b; jump a; b: halt;");
        x.input(1);
        due("it counts in cost, too", x.cost(1, 9), 6 + 5);
        x.input(0);
        due("it counts in cost, too", x.cost(1, 9), 6 + 5);
        x = CHECK.told("zero b; mul; b: halt;");
        x.input(1);
        due("cost of an UNDER", x.cost(1, 9), 6);
        x.input(0);
        due("cost of a HALT", x.cost(1, 9), 6 + 5);
    }
}
