/** Term III, STEPS and ENDS: each sentence that names a boundary has a function of its own. */
final class StepEdgesTest {
    private static final Check CHECK = new Check("StepEdgesTest");
    private static final String[] ORDERS = {"push 5", "drop", "dup", "swap", "over", "add", "sub", "mul", "less",
        "get 0", "set 0", "jump e", "zero e", "out", "halt"};
    private static final int[] TAKES = {0, 1, 1, 2, 2, 2, 2, 2, 2, 0, 1, 0, 1, 1, 0};
    private static final int[] PUTS = {1, 0, 2, 2, 3, 1, 1, 1, 1, 1, 0, 0, 0, 0, 0};
    private static final int HEARTS = 5;
    private static final int HALT = 0;
    private static final int FUEL = 1;
    private static final int UNDER = 2;
    private static final int FULL = 3;
    private static final int OFF = 4;
    private static final int MUL = 7;
    private static final int MIN = Integer.MIN_VALUE;
    private static final int MAX = Integer.MAX_VALUE;

    public static void main(String[] args) {
        goesOnToTheNext();
        jumpsToItsMark();
        zeroJumpsAtZeroAlone();
        ordersOfThePile();
        secondAndTop();
        takesAndPuts();
        everyOrderAtEveryHeight();
        haltIsAStep();
        allStepsAreDone();
        fewerThanItTakes();
        moreThanThirtyTwo();
        behindTheLastOrder();
        offIsAskedAheadOfFuel();
        fuelIsAskedAheadOfUnderAndFull();
        notDoneCostsNothing();
        CHECK.end();
    }

    private static void due(String call, long got, long want) {
        CHECK.due(call, got, want);
    }

    /** How a run ends, by each heart; place is told(4). */
    private static void ends(String text, int input, int fuel, int end, int steps, int place) {
        StepperHearts x = CHECK.told(text);
        x.input(input);
        for (int heart = 0; heart < HEARTS; heart++) {
            String run = "run(" + heart + ", " + fuel + ") of '" + text + "' with " + input;
            CHECK.taken(run, x, x.run(heart, fuel), end);
            due("steps of " + run, x.told(0), steps);
            due("place of " + run, x.told(4), place);
        }
    }

    /** What is on the pile behind the whole program, by each heart. */
    private static void leaves(String text, int input, int... pile) {
        StepperHearts x = CHECK.told(text);
        x.input(input);
        for (int heart = 0; heart < HEARTS; heart++) {
            x.run(heart, 5000);
            due("height by " + heart + " of '" + text + "'", x.told(2), pile.length);
            for (int i = 0; i < pile.length && i < x.told(2); i++) {
                CHECK.duePile(x, i, pile[i]);
            }
            CHECK.noPile(x, pile.length);
        }
    }

    private static void goesOnToTheNext() {
        CHECK.sentence("each does one ORDER, and goes on to the next");
        String text = "push 1; push 2; push 3; add; mul;";
        for (int fuel = 1; fuel <= 4; fuel++) {
            ends(text, 0, fuel, FUEL, fuel, fuel);
        }
        ends(text, 0, 5, OFF, 5, 5);
        leaves(text, 9, 9, 5);
    }

    private static void jumpsToItsMark() {
        CHECK.sentence("jump to its MARK");
        ends("jump b; a: halt; b: jump a;", 0, 9, HALT, 3, 1);
        ends("a: jump a;", 0, 9, FUEL, 9, 0);
        ends("jump z; " + "drop; ".repeat(80) + "z: halt;", 0, 9, HALT, 2, 81);
        ends("drop; jump b; a: jump a; b: jump a;", 0, 9, FUEL, 9, 2);
    }

    private static void zeroJumpsAtZeroAlone() {
        CHECK.sentence("zero takes one and jumps if it is 0");
        String text = "zero e; halt; e: push 1;";
        ends(text, 0, 9, OFF, 2, 3);
        for (int input : new int[] {1, -1, 2, 256, 65536, MIN, MAX}) {
            ends(text, input, 9, HALT, 2, 1);
            leaves(text, input);
        }
        leaves(text, 0, 1);
        ends("a: zero a;", 0, 9, UNDER, 1, 0);
        ends("a: zero a;", 7, 9, OFF, 1, 1);
    }

    private static void ordersOfThePile() {
        CHECK.sentence("drop takes one; dup puts the top once more; swap the two on top; over puts the second");
        leaves("push 1; push 2; drop;", 9, 9, 1);
        leaves("push 1; push 2; dup;", 9, 9, 1, 2, 2);
        leaves("push 1; push 2; swap;", 9, 9, 2, 1);
        leaves("push 1; push 2; over;", 9, 9, 1, 2, 1);
        leaves("push 1; push 2; set 3; get 3; get 4;", 9, 9, 1, 2, 0);
        leaves("push 1; push 2; out;", 9, 9, 1);
        leaves("push 1; push 2; halt; drop;", 9, 9, 1, 2);
    }

    private static void secondAndTop() {
        CHECK.sentence("add, sub, mul, less (1 or 0): of the second and the top");
        leaves("push 4; push 7; push 3; add;", 9, 9, 4, 10);
        leaves("push 4; push 7; push 3; sub;", 9, 9, 4, 4);
        leaves("push 4; push 3; push 7; sub;", 9, 9, 4, -4);
        leaves("push 4; push 7; push 3; mul;", 9, 9, 4, 21);
        leaves("push 4; push 3; push 7; less;", 9, 9, 4, 1);
        leaves("push 4; push 7; push 3; less;", 9, 9, 4, 0);
        leaves("push 4; push 7; push 7; less;", 9, 9, 4, 0);
        leaves("push 4; push 6; push 7; less;", 9, 9, 4, 1);
    }

    private static void takesAndPuts() {
        CHECK.sentence("TAKES and PUTS of an ORDER");
        for (int kind = 0; kind < ORDERS.length; kind++) {
            StepperHearts x = CHECK.told("dup; " + ORDERS[kind] + "; e: halt;");
            for (int heart = 0; heart < HEARTS; heart++) {
                x.run(heart, 2);
                due("height behind " + ORDERS[kind], x.told(2), 2 - TAKES[kind] + PUTS[kind]);
                due("the most behind " + ORDERS[kind], x.told(5), Math.max(2, 2 - TAKES[kind] + PUTS[kind]));
            }
            int own = (kind == MUL ? 3 : 1) + TAKES[kind] + PUTS[kind];
            due("cost by 0 of " + ORDERS[kind], x.cost(0, 2) - x.cost(0, 1), 6 + own);
            due("cost by 1 of " + ORDERS[kind], x.cost(1, 2) - x.cost(1, 1), 4 + own);
        }
    }

    private static String ofHeight(int height) {
        return height == 0 ? "drop; " : "dup; ".repeat(height - 1);
    }

    private static void everyOrderAtEveryHeight() {
        CHECK.sentence("2 UNDER: fewer on the PILE than it TAKES; 3 FULL: more than 32 would be on it");
        for (int kind = 0; kind < ORDERS.length; kind++) {
            for (int height : new int[] {0, 1, 2, 3, 30, 31, 32}) {
                int ahead = height == 0 ? 1 : height - 1;
                String text = ofHeight(height) + ORDERS[kind] + "; e: halt;";
                int after = height - TAKES[kind] + PUTS[kind];
                if (height < TAKES[kind]) {
                    ends(text, 0, 99, UNDER, ahead, ahead);
                } else if (after > 32) {
                    ends(text, 0, 99, FULL, ahead, ahead);
                } else if (kind == 14) {
                    ends(text, 0, 99, HALT, ahead + 1, ahead);
                } else {
                    ends(text, 0, 99, HALT, ahead + 2, ahead + 1);
                }
            }
        }
    }

    private static void haltIsAStep() {
        CHECK.sentence("halt is a step");
        ends("halt;", 0, 1, HALT, 1, 0);
        ends("halt; drop;", 0, 2, HALT, 1, 0);
        ends("dup; halt;", 0, 1, FUEL, 1, 1);
        ends("dup; halt;", 0, 2, HALT, 2, 1);
        StepperHearts x = CHECK.told("dup; halt;");
        int[] costs = {7 + 10, 5 + 8, 5 + 8, 5 + 7, 5 + 8};
        for (int heart = 0; heart < HEARTS; heart++) {
            x.run(heart, 9);
            due("cost by " + heart, x.told(1), costs[heart]);
            due("did(14)", x.did(14), 1);
            due("follows(2, 14)", x.follows(2, 14), 1);
        }
    }

    private static void allStepsAreDone() {
        CHECK.sentence("1 FUEL: all steps are done");
        ends("dup; drop; halt;", 0, 1, FUEL, 1, 1);
        ends("dup; drop; halt;", 0, 2, FUEL, 2, 2);
        ends("dup; drop; halt;", 0, 3, HALT, 3, 2);
        ends("a: jump a;", 0, 1, FUEL, 1, 0);
        ends("a: jump a;", 0, 5000, FUEL, 5000, 0);
        ends("a: jump b; b: jump a;", 0, 4999, FUEL, 4999, 1);
    }

    private static void fewerThanItTakes() {
        CHECK.sentence("2 UNDER: fewer on the PILE than it TAKES (the step isn't done)");
        StepperHearts x = CHECK.told("push 3; add; set 5; out; halt;");
        x.input(4);
        for (int heart = 0; heart < HEARTS; heart++) {
            due("run", x.run(heart, 99), UNDER);
            due("steps", x.told(0), 3);
            due("outs", x.told(3), 0);
            due("did(13)", x.did(13), 0);
            due("follows(10, 13)", x.follows(10, 13), 0);
            due("cell(5)", x.cell(5), 7);
            due("place", x.told(4), 3);
        }
        x = CHECK.told("sub;");
        x.input(4);
        x.run(0, 9);
        due("the one that is there stays", x.told(2), 1);
        CHECK.duePile(x, 0, 4);
        x = CHECK.told("set 2; dup;");
        x.input(4);
        x.run(0, 9);
        due("cell(2)", x.cell(2), 4);
        due("the most", x.told(5), 1);
        due("on the PILE", x.told(2), 0);
        CHECK.noPile(x, 0);
    }

    private static void moreThanThirtyTwo() {
        CHECK.sentence("3 FULL: more than 32 would be on it (likewise)");
        ends("l: push 1; jump l;", 0, 5000, FULL, 62, 0);
        ends("l: dup; jump l;", 0, 5000, FULL, 62, 0);
        ends("dup; l: over; jump l;", 0, 5000, FULL, 61, 1);
        ends("l: get 7; jump l;", 0, 5000, FULL, 62, 0);
        ends("dup; ".repeat(31) + "l: swap; jump l;", 0, 5000, FUEL, 5000, 32);
        StepperHearts x = CHECK.told("dup; ".repeat(31) + "push 9;");
        x.input(4);
        for (int heart = 0; heart < HEARTS; heart++) {
            due("run", x.run(heart, 99), FULL);
            due("on the PILE", x.told(2), 32);
            due("the most", x.told(5), 32);
            due("did(0)", x.did(0), 0);
            due("follows(2, 0)", x.follows(2, 0), 0);
            CHECK.duePile(x, 31, 4);
            CHECK.noPile(x, 32);
        }
    }

    private static void behindTheLastOrder() {
        CHECK.sentence("4 OFF: behind the last ORDER");
        ends("dup;", 0, 9, OFF, 1, 1);
        ends("halt; a: dup;", 0, 9, HALT, 1, 0);
        ends("jump a; halt; a: dup;", 0, 9, OFF, 2, 3);
        ends("zero a; a: push 1; zero a;", 0, 9, OFF, 3, 3);
        ends("dup;drop;".repeat(50), 0, 5000, OFF, 100, 100);
        ends("dup;drop;".repeat(50), 0, 99, FUEL, 99, 99);
    }

    private static void offIsAskedAheadOfFuel() {
        CHECK.sentence("4 OFF: behind the last ORDER (asked ahead of FUEL)");
        ends("dup;", 0, 1, OFF, 1, 1);
        ends("dup; drop;", 0, 2, OFF, 2, 2);
        ends("dup; drop;", 0, 1, FUEL, 1, 1);
        ends("dup;drop;".repeat(50), 0, 100, OFF, 100, 100);
        ends("a: push 1; sub; dup; zero b; jump a; b: drop;", 3, 15, OFF, 15, 6);
        ends("a: push 1; sub; dup; zero b; jump a; b: drop;", 3, 14, FUEL, 14, 5);
    }

    private static void fuelIsAskedAheadOfUnderAndFull() {
        CHECK.sentence("1 FUEL: all steps are done; 2 UNDER: (the step isn't done)");
        ends("drop; drop;", 0, 1, FUEL, 1, 1);
        ends("drop; drop;", 0, 2, UNDER, 1, 1);
        ends("dup; ".repeat(32), 0, 31, FUEL, 31, 31);
        ends("dup; ".repeat(32), 0, 32, FULL, 31, 31);
        ends("swap; halt;", 0, 1, UNDER, 0, 0);
    }

    private static void notDoneCostsNothing() {
        CHECK.sentence("one that isn't done costs nothing");
        StepperHearts x = CHECK.told("mul;");
        StepperHearts y = CHECK.told("drop; drop;");
        StepperHearts z = CHECK.told("dup; ".repeat(31) + "push 9;");
        StepperHearts w = CHECK.told("dup; ".repeat(31) + "halt;");
        int[] drops = {8, 6, 6, 6, 6};
        for (int heart = 0; heart < HEARTS; heart++) {
            due("cost by " + heart + " of an UNDER at once", x.cost(heart, 5000), 0);
            due("run", x.run(heart, 5000), UNDER);
            due("told(1)", x.told(1), 0);
            due("most()", x.most(), -2);
            due("cost by " + heart + " of a drop", y.cost(heart, 5000), drops[heart]);
            due("cost by " + heart + " of 31 dups", z.cost(heart, 5000), w.cost(heart, 31));
        }
        due("cheapest of none", x.cheapest(5000), 0);
        y.join(1, 1);
        due("gain of a second that isn't done", y.cost(2, 5000), 6);
        y.part();
        due("gain of a second that isn't done", y.gain(5000), 0);
    }
}
