/** Term IV, HEARTS: each sentence that names a boundary has a function of its own; costs are worked out by hand. */
final class HeartEdgesTest {
    private static final Check CHECK = new Check("HeartEdgesTest");
    private static final int HEARTS = 5;
    private static final int FORTY_STEPS = 40;
    private static final String TWO_ALIKE = "dup; drop; ";

    public static void main(String[] args) {
        allByTheSameSteps();
        costIsOfAllSteps();
        workOfMul();
        joinedFromTheLeft();
        neitherJoinedYet();
        firstAndSecondByTheirKinds();
        noMarkAtTheSecond();
        noPlaceBehindTheLast();
        secondCostsNothing();
        secondThatIsNotDone();
        keptAsARunBegins();
        keptAndTakes();
        keptAndTakesNone();
        putsKeptOrNot();
        keptBehindAnOrder();
        keptElseAsAhead();
        ownPlaceOrOneAhead();
        jumpsAheadDoNotCount();
        zeroThatDoesNotJump();
        theEighth();
        aLaterOne();
        onlyOneRowAtOnce();
        rowOfFortySteps();
        rowOfMoreSteps();
        placeNeverGetsOne();
        rowThatEndsWithTheRun();
        askedAsTheNextDoneStepBegins();
        traceIsWrittenOnce();
        goesIntoIt();
        roundAndRound();
        firstOutCostsTenMore();
        outAndIntoAnother();
        outAndIntoAnotherByZero();
        eachRunBeginsAnew();
        CHECK.end();
    }

    private static void due(String call, long got, long want) {
        CHECK.due(call, got, want);
    }

    /** By cost() and by run(), told(). */
    private static void costs(StepperHearts x, int heart, int fuel, int want) {
        due("cost(" + heart + ", " + fuel + ")", x.cost(heart, fuel), want);
        x.run(heart, fuel);
        due("told(1) of run(" + heart + ", " + fuel + ")", x.told(1), want);
    }

    private static void traced(StepperHearts x, int fuel, int traces) {
        x.run(4, fuel);
        due("traces() of run(4, " + fuel + ")", x.traces(), traces);
    }

    private static void allByTheSameSteps() {
        CHECK.sentence("IV. HEARTS, all by the same STEPS");
        StepperHearts x = CHECK.told("l: get 0; push 1; add; dup; set 0; dup; out; push 9; less; zero l; jump l;");
        x.join(0, 5);
        for (int fuel : new int[] {1, 20, 200, 5000}) {
            int[] all = new int[15];
            for (int heart = 0; heart < HEARTS; heart++) {
                x.run(heart, fuel);
                int[] met = {x.told(0), x.told(2), x.told(3), x.told(4), x.told(5), x.cell(0), x.most(), x.did(0),
                    x.did(12), x.follows(0, 5), x.follows(12, 9), x.pile(0)};
                for (int i = 0; i < met.length; i++) {
                    due("heart " + heart + " with " + fuel + " tells " + i, met[i], heart == 0 ? met[i] : all[i]);
                    all[i] = met[i];
                }
            }
        }
    }

    private static void costIsOfAllSteps() {
        CHECK.sentence("COST is of all steps done together");
        StepperHearts x = CHECK.told("l: push 2; drop; jump l;");
        costs(x, 0, 1, 8);
        costs(x, 0, 2, 16);
        costs(x, 0, 3, 23);
        costs(x, 0, 4, 31);
        costs(x, 1, 1, 6);
        costs(x, 1, 2, 12);
        costs(x, 1, 3, 17);
        costs(x, 1, 5000, 1666 * 17 + 12);
    }

    private static void workOfMul() {
        CHECK.sentence("WORK of mul 3, of others 1");
        String[] orders = {"add", "sub", "mul", "less"};
        for (String order : orders) {
            StepperHearts x = CHECK.told("dup; " + order + ";");
            int work = order.equals("mul") ? 3 : 1;
            costs(x, 0, 9, 10 + 9 + work);
            costs(x, 1, 9, 8 + 7 + work);
            costs(x, 2, 9, 8 + 7 + work);
            costs(x, 3, 9, 7 + 5 + work);
            costs(x, 4, 9, 8 + 7 + work);
        }
    }

    private static void joinedFromTheLeft() {
        CHECK.sentence("places of the PROGRAM are joined from the left");
        for (int dups = 1; dups <= 9; dups++) {
            StepperHearts x = CHECK.told("dup; ".repeat(dups));
            x.join(2, 2);
            due("joined() of " + dups + " dups", x.joined(), dups / 2);
            costs(x, 2, 99, 8 * dups - 4 * (dups / 2));
        }
        // from the right the pairs would be over, add and sub, over
        StepperHearts x = CHECK.told("dup; dup; dup; sub; over; add; halt;");
        x.join(6, 4);
        x.join(4, 5);
        due("joined()", x.joined(), 1);
        costs(x, 2, 4, 4 * 8);
        costs(x, 2, 5, 4 * 8 + 6);
        costs(x, 2, 6, 4 * 8 + 6 + 8);
    }

    private static void neitherJoinedYet() {
        CHECK.sentence("a place and the next one, if neither is joined yet");
        StepperHearts x = CHECK.told("push 1; dup; drop; out; halt;");
        x.join(0, 2);
        due("joined()", x.joined(), 1);
        x.join(2, 1);
        due("joined()", x.joined(), 1);
        x.join(1, 13);
        due("joined()", x.joined(), 2);
        x.join(13, 14);
        due("joined()", x.joined(), 2);
        costs(x, 2, 9, 6 + 4 + 6 + 2 + 5);
    }

    private static void firstAndSecondByTheirKinds() {
        CHECK.sentence("both ORDERS are a JOIN (first, second by their kinds)");
        StepperHearts x = CHECK.told("push 1; drop; get 0; out; halt;");
        x.join(1, 0);
        x.join(13, 9);
        x.join(0, 9);
        due("the other way round is another", x.joined(), 0);
        costs(x, 2, 9, 6 * 4 + 5);
        x.join(0, 1);
        due("joined()", x.joined(), 1);
        x.join(9, 13);
        due("joined()", x.joined(), 2);
        costs(x, 2, 9, 6 + 2 + 6 + 2 + 5);
    }

    private static void noMarkAtTheSecond() {
        CHECK.sentence("no MARK stands at the second");
        StepperHearts x = CHECK.told("dup; m: drop; halt;");
        x.join(2, 1);
        due("joined()", x.joined(), 0);
        costs(x, 2, 9, 8 + 6 + 5);
        x = CHECK.told("m: dup; drop; halt;");
        x.join(2, 1);
        due("a MARK at the first", x.joined(), 1);
        costs(x, 2, 9, 8 + 2 + 5);
        x = CHECK.told("dup; m: dup; dup; halt;");
        x.join(2, 2);
        due("the second is a first then", x.joined(), 1);
        costs(x, 2, 9, 8 + 8 + 4 + 5);
    }

    private static void noPlaceBehindTheLast() {
        CHECK.sentence("a place and the next one");
        StepperHearts x = CHECK.told("dup;");
        x.join(2, 2);
        x.join(2, 0);
        x.join(2, 14);
        due("joined() of one ORDER", x.joined(), 0);
        costs(x, 2, 9, 8);
        x = CHECK.told("dup;drop;".repeat(49) + "push 1;drop;");
        x.join(0, 1);
        due("joined() of the last two of 100", x.joined(), 1);
        costs(x, 2, 200, 49 * 14 + 6 + 2);
        x.join(2, 1);
        due("joined() of all of 100", x.joined(), 50);
        Check.tell(x, "dup; drop; dup;");
        due("joined() of a shorter one behind a longer one", x.joined(), 1);
    }

    private static void secondCostsNothing() {
        CHECK.sentence("a step at such a second place right behind one at the first costs 0 in place of the 4");
        StepperHearts x = CHECK.told("l: push 1; drop; jump l;");
        x.join(0, 1);
        x.join(1, 11);
        x.join(11, 0);
        costs(x, 2, 1, 6);
        costs(x, 2, 2, 6 + 2);
        costs(x, 2, 3, 6 + 2 + 5);
        costs(x, 2, 4, 6 + 2 + 5 + 6);
        costs(x, 2, 300, 100 * 13);
        costs(x, 1, 300, 100 * 17);
        // a zero that doesn't jump is right ahead of its next place
        x = CHECK.told("zero m; push 7; m: halt;");
        x.join(12, 0);
        x.input(1);
        costs(x, 2, 9, 6 + 2 + 5);
        x.input(0);
        costs(x, 2, 9, 6 + 5);
    }

    private static void secondThatIsNotDone() {
        CHECK.sentence("one that isn't done costs nothing; JOINED");
        StepperHearts x = CHECK.told("drop; out; halt;");
        x.join(1, 13);
        due("run", x.run(2, 9), 2);
        costs(x, 2, 9, 6);
        x = CHECK.told("dup; dup; halt;");
        x.join(2, 2);
        costs(x, 2, 1, 8);
        costs(x, 2, 2, 8 + 4);
    }

    private static void kept(String text, int want) {
        StepperHearts x = CHECK.told(text);
        costs(x, 3, 99, want);
    }

    private static void keptAsARunBegins() {
        CHECK.sentence("with the top kept (not as a run begins)");
        kept("drop;", 6);
        kept("dup;", 7);
        kept("push 1;", 5);
        kept("get 1;", 5);
        kept("out;", 6);
        kept("set 1;", 6);
        kept("zero a; a: drop;", 6);
        kept("halt;", 5);
        StepperHearts x = CHECK.told("drop; push 1; halt;");
        costs(x, 3, 99, 6 + 5 + 5);
        costs(x, 3, 99, 6 + 5 + 5);
    }

    private static void keptAndTakes() {
        CHECK.sentence("with the top kept one less for an ORDER that TAKES some");
        kept("push 1; drop;", 5 + 5);
        kept("push 1; out;", 5 + 5);
        kept("push 1; set 1;", 5 + 5);
        kept("push 1; zero a; a: halt;", 5 + 5 + 5);
        kept("push 0; zero a; a: halt;", 5 + 5 + 5);
        kept("push 1; dup;", 5 + 6);
        kept("push 1; swap;", 5 + 7);
        kept("push 1; over;", 5 + 8);
        kept("push 1; add;", 5 + 6);
        kept("push 1; sub;", 5 + 6);
        kept("push 1; mul;", 5 + 8);
        kept("push 1; less;", 5 + 6);
    }

    private static void keptAndTakesNone() {
        CHECK.sentence("one more for one that TAKES none and PUTS some");
        kept("push 1; push 1;", 5 + 6);
        kept("push 1; get 1;", 5 + 6);
        kept("get 1; push 1; push 1;", 5 + 6 + 6);
        kept("push 1; halt;", 5 + 5);
        kept("push 1; jump a; a: halt;", 5 + 5 + 5);
    }

    private static void putsKeptOrNot() {
        CHECK.sentence("and (kept or not) one less for one that PUTS some");
        String[] orders = {"swap", "over", "add", "sub", "mul", "less"};
        int[] notKept = {8, 9, 7, 7, 9, 7};
        for (int i = 0; i < orders.length; i++) {
            kept("push 1; dup; drop; " + orders[i] + ";", 5 + 6 + 5 + notKept[i]);
            kept("push 1; " + orders[i] + ";", 5 + notKept[i] - 1);
        }
        kept("push 1; drop; dup;", 5 + 5 + 7);
        kept("push 1; drop; get 1;", 5 + 5 + 5);
    }

    private static void keptBehindAnOrder() {
        CHECK.sentence("The top is kept behind an ORDER that PUTS some, isn't behind one that TAKES some and PUTS none");
        String[] puts = {"push 1", "dup", "get 1", "dup; swap", "dup; over", "dup; add", "dup; sub", "dup; mul", "dup; less"};
        for (String order : puts) {
            StepperHearts x = CHECK.told(order + "; drop; halt;");
            int steps = order.contains("dup;") ? 2 : 1;
            due("a drop behind " + order, x.cost(3, steps + 1) - x.cost(3, steps), 5);
        }
        String[] takes = {"drop", "set 1", "out", "zero a"};
        for (String order : takes) {
            StepperHearts x = CHECK.told("push 1; push 1; " + order + "; a: drop; halt;");
            due(order + " with the top kept", x.cost(3, 3) - x.cost(3, 2), 5);
            due("a drop behind " + order, x.cost(3, 4) - x.cost(3, 3), 6);
        }
    }

    private static void keptElseAsAhead() {
        CHECK.sentence("and else as ahead");
        kept("push 1; jump a; a: drop;", 5 + 5 + 5);
        kept("drop; jump a; a: push 1; drop;", 6 + 5 + 5 + 5);
        kept("jump a; a: drop;", 5 + 6);
        kept("push 1; jump a; a: jump b; b: push 1;", 5 + 5 + 5 + 6);
    }

    private static void ownPlaceOrOneAhead() {
        CHECK.sentence("a step that jumps (jump, or zero that does) to its own place or one ahead of it counts one for that place");
        StepperHearts x = CHECK.told("a: jump a;");
        traced(x, 9, 0);
        traced(x, 10, 1);
        due("trace(0)", x.trace(0), 1);
        x = CHECK.told("a: jump b; b: jump a;");
        traced(x, 18, 0);
        traced(x, 19, 1);
        due("trace(0)", x.trace(0), 2);
        due("trace(1)", x.trace(1), 0);
        x = CHECK.told("a: push 0; zero a;");
        traced(x, 18, 0);
        traced(x, 19, 1);
        due("trace(0)", x.trace(0), 2);
        // a zero that jumps to its own place
        x = CHECK.told("push 0; ".repeat(12) + "a: zero a; halt;");
        traced(x, 12 + 9, 0);
        traced(x, 12 + 10, 1);
        due("trace(12)", x.trace(12), 1);
        costs(x, 4, 12 + 9, 12 * 6 + 9 * 6);
        costs(x, 4, 12 + 10, 12 * 6 + 9 * 6 + 3);
    }

    private static void jumpsAheadDoNotCount() {
        CHECK.sentence("to its own place or one ahead of it");
        StepperHearts x = CHECK.told("a: jump b; b: push 0; zero c; c: jump a;");
        x.run(4, 5000);
        due("traces()", x.traces(), 1);
        due("trace(0)", x.trace(0), 4);
        due("trace(1)", x.trace(1), 0);
        due("trace(3)", x.trace(3), 0);
        traced(x, 36, 0);
        traced(x, 37, 1);
    }

    private static void zeroThatDoesNotJump() {
        CHECK.sentence("zero that does");
        // the zero never jumps to b, which it would by the third step of each round
        StepperHearts x = CHECK.told("a: jump b; b: push 1; zero b; jump a;");
        traced(x, 36, 0);
        traced(x, 37, 1);
        due("trace(0)", x.trace(0), 4);
        due("trace(1)", x.trace(1), 0);
        x.run(4, 5000);
        due("trace(1)", x.trace(1), 0);
    }

    private static void theEighth() {
        CHECK.sentence("With the eighth for a place the steps from there on are WRITTEN");
        StepperHearts x = CHECK.told("push 8; l: push 1; sub; dup; zero e; jump l; e: halt;");
        traced(x, 5000, 0);
        due("did(11): seven rounds back", x.did(11), 7);
        x = CHECK.told("push 9; l: push 1; sub; dup; zero e; jump l; e: halt;");
        traced(x, 5000, 0);
        due("did(11): the eighth, and its row comes no more round", x.did(11), 8);
        x = CHECK.told("push 10; l: push 1; sub; dup; zero e; jump l; e: halt;");
        traced(x, 5000, 1);
        due("did(11): nine", x.did(11), 9);
        due("trace(1)", x.trace(1), 5);
        traced(x, 1 + 9 * 5, 0);
        traced(x, 1 + 9 * 5 + 1, 1);
        // steps ahead of the eighth aren't in the row
        x = CHECK.told("push 1; push 2; l: dup; drop; jump l;");
        x.run(4, 5000);
        due("trace(2)", x.trace(2), 3);
    }

    private static void aLaterOne() {
        CHECK.sentence("(or a later one, if another row was being WRITTEN at that time)");
        // a round is 0, 2, 1: b (place 1) has its eighth at step 23, a (place 0) at 24, while b's row is written
        StepperHearts x = CHECK.told("a: jump c; b: jump a; c: jump b;");
        traced(x, 26, 0);
        traced(x, 27, 1);
        due("trace(1)", x.trace(1), 3);
        due("trace(0)", x.trace(0), 0);
        traced(x, 30, 1);
        traced(x, 31, 2);
        due("trace(0)", x.trace(0), 3);
        due("trace(2)", x.trace(2), 0);
        traced(x, 5000, 2);
    }

    private static void onlyOneRowAtOnce() {
        CHECK.sentence("One row at most is being WRITTEN at once");
        StepperHearts x = CHECK.told("a: jump c; b: jump a; c: jump b;");
        costs(x, 4, 26, 26 * 5);
        costs(x, 4, 27, 26 * 5 + 1);
        costs(x, 4, 31, 26 * 5 + 5);
        costs(x, 4, 5000, 26 * 5 + 4974);
        x.run(4, 28);
        due("a's row isn't written with b's", x.trace(0), 0);
    }

    private static void rowOfFortySteps() {
        CHECK.sentence("until it comes to that place again (then the row is its TRACE) or has 40 steps and doesn't come to it then");
        for (int steps : new int[] {4, FORTY_STEPS - 2, FORTY_STEPS}) {
            StepperHearts x = CHECK.told("l: jump m; m: " + TWO_ALIKE.repeat(steps / 2 - 1) + "jump l;");
            traced(x, 9 * steps, 0);
            traced(x, 9 * steps + 1, 1);
            due("trace(0)", x.trace(0), steps);
            costs(x, 4, 9 * steps + 1, x.cost(1, 9 * steps + 1) - 4);
            costs(x, 4, 11 * steps, x.cost(1, 11 * steps) - 8 * steps);
        }
        StepperHearts x = CHECK.told("l: push 1; " + "push 1; drop; ".repeat(18) + "drop; jump l;");
        traced(x, 5000, 1);
        due("trace(0) of an odd row", x.trace(0), 39);
    }

    private static void rowOfMoreSteps() {
        CHECK.sentence("or has 40 steps and doesn't come to it then");
        for (int more = 1; more <= 3; more++) {
            String jumps = "";
            for (int i = 0; i < more; i++) {
                char mark = (char) ('p' + i);
                jumps += "jump " + mark + "; " + mark + ": ";
            }
            StepperHearts x = CHECK.told("l: jump m; m: " + jumps + TWO_ALIKE.repeat(19) + "jump l;");
            traced(x, 5000, 0);
            due("trace(0)", x.trace(0), 0);
            costs(x, 4, 5000, x.cost(1, 5000));
        }
    }

    private static void placeNeverGetsOne() {
        CHECK.sentence("(then the place never gets one)");
        // the ninth round, which is written, is long; the later ones are short
        String count = "l: get 0; push 1; add; dup; set 0; push 9; sub; zero m; jump l; m: ";
        StepperHearts x = CHECK.told(count + TWO_ALIKE.repeat(16) + "jump l;");
        traced(x, 5000, 0);
        due("trace(0)", x.trace(0), 0);
        costs(x, 4, 5000, x.cost(1, 5000));
        x = CHECK.told(count + TWO_ALIKE.repeat(15) + "jump l;");
        traced(x, 5000, 1);
        due("trace(0) of a long round that fits", x.trace(0), 39);
        // another place may be written behind the row that was given up
        x = CHECK.told(count + TWO_ALIKE.repeat(16) + "k: jump n; n: jump k;");
        traced(x, 5000, 1);
        due("trace(0)", x.trace(0), 0);
        due("the place of k", x.trace(9 + 32), 2);
    }

    private static void rowThatEndsWithTheRun() {
        CHECK.sentence("or ends");
        StepperHearts x = CHECK.told("l: dup; drop; jump l;");
        for (int fuel = 24; fuel <= 27; fuel++) {
            traced(x, fuel, 0);
            due("trace(0)", x.trace(0), 0);
            costs(x, 4, fuel, x.cost(1, fuel));
        }
        traced(x, 28, 1);
        due("trace(0)", x.trace(0), 3);
        traced(x, 27, 0);
        due("a row of a run that ended isn't gone on with", x.trace(0), 0);
        traced(x, 2, 0);
    }

    private static void askedAsTheNextDoneStepBegins() {
        CHECK.sentence("(both asked as the next step that is done begins)");
        StepperHearts x = CHECK.told("push 1; ".repeat(8) + "l: drop; jump l;");
        due("the drop that would come round is UNDER", x.run(4, 5000), 2);
        due("steps", x.told(0), 8 + 18);
        due("traces()", x.traces(), 0);
        x = CHECK.told("push 1; ".repeat(9) + "l: drop; jump l;");
        due("the drop that comes round is done", x.run(4, 5000), 2);
        due("steps", x.told(0), 9 + 20);
        due("traces()", x.traces(), 1);
        due("trace(9)", x.trace(9), 2);
        x = CHECK.told("dup; ".repeat(22) + "l: dup; jump l;");
        due("the dup that would come round is FULL", x.run(4, 5000), 3);
        due("steps", x.told(0), 22 + 18);
        due("traces()", x.traces(), 0);
        x = CHECK.told("dup; ".repeat(21) + "l: dup; jump l;");
        due("the dup that comes round is done", x.run(4, 5000), 3);
        due("traces()", x.traces(), 1);
    }

    private static void traceIsWrittenOnce() {
        CHECK.sentence("With the eighth for a place; until it comes to that place again (then the row is its TRACE)");
        StepperHearts x = CHECK.told("l: get 0; push 1; add; dup; set 0; push 20; less; zero e; jump l; "
            + "e: dup; drop; jump l;");
        traced(x, 5000, 1);
        due("trace(0) is the row of the first rounds", x.trace(0), 9);
        int own = 2 + 2 + 4 + 4 + 2 + 2 + 4 + 2 + 1;
        int early = 9 * (own + 36) + 10 * (own + 1);
        costs(x, 4, 19 * 9, early);
        // eight steps in the trace, then out of it: 14, 4, 4
        int late = own - 1 + 1 + 4 + 14 + 2 + 4 + 1 + 4;
        costs(x, 4, 19 * 9 + 11, early + late);
        costs(x, 4, 19 * 9 + 5 * 11, early + 5 * late);
    }

    private static void goesIntoIt() {
        CHECK.sentence("A step at a place that has a TRACE, not yet within one, goes into it");
        // l (place 1) is reached by going on from the outer loop's push, too
        StepperHearts x = CHECK.told("o: push 12; l: push 1; sub; dup; zero e; jump l; e: drop; jump o;");
        int own = 2 + 12 * (2 + 4 + 4 + 2) + 11 + 2 + 1;
        int first = own + 4 + 9 * 5 * 4 + 3 + 14 + 4;
        int later = own + 4 + 12 + 14 + 4;
        costs(x, 4, 62, first);
        costs(x, 4, 2 * 62, first + later);
        costs(x, 4, 2 * 62 + 1, first + later + 2 + 4);
        costs(x, 4, 2 * 62 + 2, first + later + 2 + 4 + 2);
        costs(x, 4, 80 * 62, first + 79 * later);
        traced(x, 5000, 1);
        due("trace(1)", x.trace(1), 5);
        due("trace(0), whose row has 62 steps", x.trace(0), 0);
    }

    private static void roundAndRound() {
        CHECK.sentence("within one a step whose place is the row's next one (round and round) costs 0 in place of the 4, zero 1");
        StepperHearts x = CHECK.told("l: dup; zero m; m: jump l;");
        int[] own = {4, 2, 1};
        int[] within = {0, 1, 0};
        for (int input = 0; input <= 1; input++) {
            x.input(input);
            int cost = 27 * 4 + 9 * 7;
            costs(x, 4, 27, cost);
            for (int step = 0; step < 12; step++) {
                cost += own[step % 3] + within[step % 3];
                costs(x, 4, 28 + step, cost);
            }
        }
        costs(x, 4, 4998, 27 * 4 + 1666 * 7 + 1657);
        x = CHECK.told("a: jump a;");
        costs(x, 4, 9, 45);
        costs(x, 4, 10, 46);
        costs(x, 4, 11, 47);
        costs(x, 4, 5000, 45 + 4991);
    }

    private static void firstOutCostsTenMore() {
        CHECK.sentence("the first whose place isn't is out of it, and costs 10 more");
        StepperHearts x = CHECK.told("push 12; l: push 1; sub; dup; zero e; jump l; e: drop; push 1; dup; halt;");
        int ahead = 6 + 12 * 12 + 11 + 45 * 4 + 3;
        costs(x, 4, 1 + 59, ahead);
        costs(x, 4, 1 + 60, ahead + 2 + 4 + 10);
        costs(x, 4, 1 + 61, ahead + 16 + 6);
        costs(x, 4, 1 + 62, ahead + 16 + 6 + 8);
        costs(x, 4, 1 + 63, ahead + 16 + 6 + 8 + 5);
        // a run that ends within its trace pays nothing for that
        x = CHECK.told("push 12; l: push 1; sub; dup; zero e; jump l; e: drop; drop;");
        x.run(4, 99);
        due("told(0)", x.told(0), 62);
        due("told(1)", x.told(1), ahead + 16 + 6);
    }

    private static void outAndIntoAnother() {
        CHECK.sentence("(if its place has a TRACE it goes into that one then: 0 in place of the 4, and the 10)");
        StepperHearts x = CHECK.told("a: push 1; sub; dup; zero b; jump a; b: push 1; add; dup; push 20; sub; zero c; "
            + "jump b; c: jump a;");
        x.input(20);
        int own = 20 * 12 + 19 + 20 * 18 + 19 + 1;
        int first = own + 45 * 4 + 11 + 10 + 63 * 4 + 11 + 14;
        int later = own + 20 + 10 + 20 + 14;
        costs(x, 4, 239, first);
        costs(x, 4, 239 + 99, first + 20 * 12 + 19 + 20);
        costs(x, 4, 239 + 100, first + 20 * 12 + 19 + 20 + 2 + 10);
        costs(x, 4, 239 + 101, first + 20 * 12 + 19 + 20 + 2 + 10 + 4);
        costs(x, 4, 2 * 239, first + later);
        costs(x, 4, 20 * 239, first + 19 * later);
        due("traces()", x.traces(), 2);
        due("trace(0)", x.trace(0), 5);
        due("trace(5)", x.trace(5), 7);
    }

    private static void outAndIntoAnotherByZero() {
        CHECK.sentence("(if its place has a TRACE it goes into that one then: 0, or 1, in place of the 4, and the 10)");
        StepperHearts x = CHECK.told("set 0; a: get 0; push 1; sub; dup; set 0; dup; zero b; drop; jump a; b: zero x; "
            + "x: get 0; push 1; add; dup; set 0; push 20; sub; dup; zero c; jump b; c: drop; jump a;");
        x.input(20);
        int ownOfA = 20 * 20 + 19 * 3;
        int own = ownOfA + 20 * 28 + 19 + 3;
        int first = 6 + own + 81 * 4 + 11 + 10 + 99 * 4 + 22 + 14 + 4;
        int later = own + 20 + 10 + 40 + 14 + 4;
        costs(x, 4, 1 + 399, first);
        costs(x, 4, 1 + 399 + 178, first + ownOfA + 20);
        costs(x, 4, 1 + 399 + 179, first + ownOfA + 20 + 2 + 10 + 1);
        costs(x, 4, 1 + 399 + 180, first + ownOfA + 20 + 2 + 10 + 1 + 2);
        costs(x, 4, 1 + 2 * 399, first + later);
        costs(x, 4, 1 + 12 * 399, first + 11 * later);
        due("trace(1)", x.trace(1), 9);
        due("trace(10)", x.trace(10), 11);
    }

    private static void eachRunBeginsAnew() {
        CHECK.sentence("how many TRACES there were as the latest run ended");
        StepperHearts x = CHECK.told("a: jump a;");
        for (int times = 0; times < 3; times++) {
            traced(x, 9, 0);
            costs(x, 4, 9, 45);
            traced(x, 10, 1);
            costs(x, 4, 10, 46);
        }
        Check.tell(x, "a: dup; drop; jump a;");
        costs(x, 4, 27, 9 * (8 + 6 + 5));
        traced(x, 27, 0);
        due("trace(0)", x.trace(0), 0);
    }
}
