/** Promises 21 to 26 and term V, TROUBLE: each sentence that names a boundary has a function of its own. */
final class BestEdgesTest {
    private static final Check CHECK = new Check("BestEdgesTest");
    private static final int MIN = Integer.MIN_VALUE;
    private static final int MAX = Integer.MAX_VALUE;
    private static final int HEARTS = 5;
    private static final String TURNS = "l: push 1; drop; jump l;";

    public static void main(String[] args) {
        costRefused();
        latestRunStays();
        cheapestOfAsCheapOnes();
        cheapestRefused();
        gainIfNoneWould();
        gainOfNoneTold();
        gainOfAnEleventh();
        gainRefused();
        betterAheadOfAny();
        betterStays();
        betterIsTheLeast();
        countOfOthers();
        troubleIsOfTheLatest();
        troubleByEachNumber();
        troubleIsLeftByOthers();
        CHECK.end();
    }

    private static void due(String call, long got, long want) {
        CHECK.due(call, got, want);
    }

    private static void costRefused() {
        CHECK.sentence("Promise 21: COST of a run by a HEART with FUEL; NONE: 4; 1");
        StepperHearts x = new StepperHearts();
        CHECK.refused("cost(0, 1)", x, x.cost(0, 1), 4);
        CHECK.refused("cost(5, 0), 4 ahead of 1", x, x.cost(5, 0), 4);
        Check.tell(x, "nay;");
        CHECK.refused("cost(0, 1) behind a FAULT", x, x.cost(0, 1), 4);
        Check.tell(x, "dup; halt;");
        for (int heart : new int[] {-1, 5, 6, 100, MIN, MAX}) {
            CHECK.refused("cost(" + heart + ", 9)", x, x.cost(heart, 9), 1);
            CHECK.refused("cost(" + heart + ", 0)", x, x.cost(heart, 0), 1);
        }
        int[] want = {17, 13, 13, 12, 13};
        for (int heart = 0; heart < HEARTS; heart++) {
            CHECK.taken("cost(" + heart + ", 9)", x, x.cost(heart, 9), want[heart]);
            CHECK.taken("cost(" + heart + ", 5000)", x, x.cost(heart, 5000), want[heart]);
            CHECK.refused("cost(" + heart + ", 5001)", x, x.cost(heart, 5001), 1);
            CHECK.refused("cost(" + heart + ", 0)", x, x.cost(heart, 0), 1);
        }
        x.join(2, 14);
        CHECK.taken("cost(2, 9) with a JOIN", x, x.cost(2, 9), 9);
        CHECK.taken("cost(1, 9) with a JOIN", x, x.cost(1, 9), 13);
    }

    private static void latestRunStays() {
        CHECK.sentence("Promise 21: (the latest run stays what it was)");
        StepperHearts x = CHECK.told("push 3; set 2; " + TURNS.replace("drop", "out"));
        x.input(8);
        x.run(4, 200);
        int[] want = facts(x);
        x.input(9);
        Check.tell(x, "push 5; dup; out; set 1; halt;");
        for (int heart = 0; heart < HEARTS; heart++) {
            x.cost(heart, 77);
            same("cost(" + heart + ", 77)", facts(x), want);
        }
        x.cheapest(50);
        same("cheapest(50)", facts(x), want);
        x.gain(50);
        same("gain(50)", facts(x), want);
        x.run(0, 0);
        same("a run that was refused", facts(x), want);
        x.run(0, 1);
        due("steps of a new run", x.told(0), 1);
    }

    private static int[] facts(StepperHearts x) {
        return new int[] {x.told(0), x.told(1), x.told(2), x.told(3), x.told(4), x.told(5), x.out(0), x.out(59), x.pile(0),
            x.cell(1), x.cell(2), x.did(0), x.did(13), x.did(2), x.follows(0, 13), x.most(), x.traces(), x.trace(2),
            x.trace(4), x.trace(5)};
    }

    private static void same(String behind, int[] got, int[] want) {
        for (int i = 0; i < want.length; i++) {
            due("fact " + i + " behind " + behind, got[i], want[i]);
        }
    }

    private static void cheapestOfAsCheapOnes() {
        CHECK.sentence("Promise 22: The HEART with the least COST (of as cheap ones the least) with FUEL");
        cheapest("swap;", 9, 0);
        cheapest("drop;", 9, 1);
        cheapest("halt;", 1, 1);
        cheapest("dup;", 9, 3);
        cheapest("a: jump a;", 9, 1);
        cheapest("a: jump a;", 10, 4);
        cheapest("get 1; get 1;", 9, 3);
        cheapest("jump m; m: halt;", 5000, 1);
        StepperHearts x = CHECK.told("drop; push 1; halt;");
        due("3 saves 1", x.cheapest(9), 3);
        x.join(1, 0);
        due("2 saves 4", x.cheapest(9), 2);
        due("2 saves nothing with 1", x.cheapest(1), 1);
        x = CHECK.told("dup; out; dup; drop; halt;");
        x.join(2, 13);
        due("cost by 2", x.cost(2, 9), x.cost(3, 9));
        due("2 and 3 save 4 both", x.cheapest(9), 2);
        // 3 saves 1 a step, 4 saves 7 in two, from the 19th on: both 25 by the 25th
        cheapest("l: push 0; zero l;", 24, 3);
        cheapest("l: push 0; zero l;", 25, 3);
        cheapest("l: push 0; zero l;", 26, 4);
        // 2 saves 4 in three steps, 4 saves 4 a step from the 28th on: both 52 by the 40th, 56 by the 41st
        x = CHECK.told(TURNS);
        x.join(0, 1);
        int[] want = {2, 2, 2, 4};
        for (int i = 0; i < want.length; i++) {
            due("cheapest(" + (39 + i) + ")", x.cheapest(39 + i), want[i]);
        }
    }

    private static void cheapest(String text, int fuel, int want) {
        StepperHearts x = CHECK.told(text);
        CHECK.taken("cheapest(" + fuel + ") of '" + text + "'", x, x.cheapest(fuel), want);
    }

    private static void cheapestRefused() {
        CHECK.sentence("Promise 22: with FUEL; NONE: 4; 1");
        StepperHearts x = new StepperHearts();
        CHECK.refused("cheapest(9)", x, x.cheapest(9), 4);
        CHECK.refused("cheapest(0), 4 ahead of 1", x, x.cheapest(0), 4);
        Check.tell(x, "nay;");
        CHECK.refused("cheapest(9) behind a FAULT", x, x.cheapest(9), 4);
        Check.tell(x, "drop;");
        for (int fuel : new int[] {0, -1, 5001, MIN, MAX}) {
            CHECK.refused("cheapest(" + fuel + ")", x, x.cheapest(fuel), 1);
        }
        CHECK.taken("cheapest(1)", x, x.cheapest(1), 1);
        CHECK.taken("cheapest(5000)", x, x.cheapest(5000), 1);
    }

    private static void gainIfNoneWould() {
        CHECK.sentence("Promise 23: 0 if none would");
        String[] texts = {"halt;", "dup; m: drop; n: halt;", "swap; dup;", "a: jump a;", "jump a; a: out;"};
        for (String text : texts) {
            StepperHearts x = CHECK.told(text);
            CHECK.taken("gain(5000) of '" + text + "'", x, x.gain(5000), 0);
            due("better()", x.better(), -1);
        }
        StepperHearts x = CHECK.told("dup; drop; halt;");
        CHECK.taken("gain(1): the second isn't reached", x, x.gain(1), 0);
        CHECK.taken("gain(2)", x, x.gain(2), 4);
        CHECK.taken("gain(3): one of the two pairs", x, x.gain(3), 4);
        CHECK.taken("gain(5000)", x, x.gain(5000), 4);
    }

    private static void gainOfNoneTold() {
        CHECK.sentence("Promise 23: (none told already)");
        StepperHearts x = CHECK.told(TURNS);
        CHECK.taken("gain(30)", x, x.gain(30), 40);
        x.join(0, 1);
        CHECK.taken("gain(30) with that one told", x, x.gain(30), 0);
        x.part();
        x.join(11, 0);
        CHECK.taken("gain(30) with one that never is", x, x.gain(30), 40);
        x.part();
        // of three in a row another one joins as much only
        x.join(1, 11);
        CHECK.taken("gain(30) with the other one told", x, x.gain(30), 0);
        x = CHECK.told("dup; dup; dup; drop; halt;");
        x.join(2, 1);
        CHECK.taken("gain: dup dup and dup drop", x, x.gain(9), 4);
        due("better()", x.better(), 202);
        x = CHECK.told("dup; dup; drop; drop; halt;");
        x.join(2, 1);
        // dup dup takes the pair dup drop away, drop drop hasn't room, drop halt has
        CHECK.taken("gain", x, x.gain(9), 4);
        due("better()", x.better(), 114);
    }

    private static void gainOfAnEleventh() {
        CHECK.sentence("Promise 23: (an eleventh, too)");
        StepperHearts x = CHECK.told(TURNS);
        for (int i = 0; i < 9; i++) {
            x.join(14, i);
        }
        CHECK.taken("gain(30) of a tenth", x, x.gain(30), 40);
        x.join(14, 9);
        CHECK.taken("gain(30) of an eleventh", x, x.gain(30), 40);
        due("better()", x.better(), 1);
        due("count(1)", x.count(1), 10);
        due("joined()", x.joined(), 0);
        due("cost(2, 30)", x.cost(2, 30), x.cost(1, 30));
        CHECK.refused("join(0, 1)", x, x.join(0, 1), 2);
    }

    private static void gainRefused() {
        CHECK.sentence("Promise 23: with FUEL; NONE: 4; 1");
        StepperHearts x = new StepperHearts();
        CHECK.refused("gain(9)", x, x.gain(9), 4);
        CHECK.refused("gain(0), 4 ahead of 1", x, x.gain(0), 4);
        Check.tell(x, "nay;");
        CHECK.refused("gain(9) behind a FAULT", x, x.gain(9), 4);
        Check.tell(x, TURNS);
        for (int fuel : new int[] {0, -1, 5001, MIN, MAX}) {
            CHECK.refused("gain(" + fuel + ")", x, x.gain(fuel), 1);
        }
        due("better()", x.better(), -1);
        int[] want = {0, 4, 4, 4, 8, 8, 8, 12};
        for (int fuel = 1; fuel <= want.length; fuel++) {
            CHECK.taken("gain(" + fuel + ")", x, x.gain(fuel), want[fuel - 1]);
        }
        CHECK.taken("gain(5000)", x, x.gain(5000), 4 * 1667);
    }

    private static void betterAheadOfAny() {
        CHECK.sentence("Promise 24: NONE ahead of any");
        StepperHearts x = new StepperHearts();
        due("better()", x.better(), -1);
        x.gain(9);
        due("better() behind a refused one", x.better(), -1);
        Check.tell(x, "halt;");
        x.gain(9);
        due("better() behind one of 0", x.better(), -1);
        x.join(2, 1);
        Check.tell(x, "dup; drop;");
        x.gain(9);
        due("better() behind one of 0", x.better(), -1);
        x.part();
        x.gain(9);
        due("better() behind one of 4", x.better(), 201);
    }

    private static void betterStays() {
        CHECK.sentence("Promise 24: (it stays behind one of 0)");
        StepperHearts x = CHECK.told("dup; drop;");
        x.gain(9);
        due("better()", x.better(), 201);
        due("gain(1)", x.gain(1), 0);
        due("better() behind one of 0", x.better(), 201);
        due("gain(0)", x.gain(0), -1);
        due("better() behind a refused one", x.better(), 201);
        x.join(2, 1);
        due("gain(9)", x.gain(9), 0);
        due("better() behind its join", x.better(), 201);
        Check.tell(x, "halt;");
        x.gain(9);
        x.part();
        x.run(0, 9);
        due("better() with another PROGRAM", x.better(), 201);
        Check.tell(x, "push 1; push 1;");
        due("gain(9)", x.gain(9), 4);
        due("better() of a later one", x.better(), 0);
        Check.tell(x, "jump a; a: drop; halt;");
        due("gain(9)", x.gain(9), 4);
        due("better() of a later one", x.better(), 114);
    }

    private static void betterIsTheLeast() {
        CHECK.sentence("Promise 24: 100 times the first and the second (the least number of the best)");
        String[] texts = {"push 1; drop; dup;", "dup; drop; push 1;", "push 1; out; push 1; drop;", "drop; get 1; out;",
            "get 1; out; get 1; out; push 1; drop;", "dup; dup; drop; dup; drop;"};
        int[] want = {1, 100, 1, 109, 913, 201};
        int[] gains = {4, 4, 4, 4, 8, 8};
        for (int i = 0; i < texts.length; i++) {
            StepperHearts x = CHECK.told(texts[i]);
            due("gain(99) of '" + texts[i] + "'", x.gain(99), gains[i]);
            due("better() of '" + texts[i] + "'", x.better(), want[i]);
        }
        StepperHearts x = CHECK.told("zero a; halt; a: halt;");
        x.input(1);
        due("gain(9)", x.gain(9), 4);
        due("better()", x.better(), 1214);
    }

    private static void countOfOthers() {
        CHECK.sentence("Promise 25: 0 ORDERS, 1 JOINS, 2 bytes of THE TAPE. NONE for others");
        StepperHearts x = CHECK.told("dup; drop; halt;");
        x.join(0, 0);
        x.join(0, 1);
        x.feed(0, 0, 0, 0, 0);
        int[] want = {3, 2, 20};
        for (int what = 0; what < 3; what++) {
            due("count(" + what + ")", x.count(what), want[what]);
        }
        for (int what : new int[] {-1, 3, 4, 100, MIN, MAX}) {
            due("count(" + what + ")", x.count(what), -1);
        }
    }

    private static void troubleIsOfTheLatest() {
        CHECK.sentence("V. TROUBLE of the latest call that may be refused by one of these numbers: 0 it wasn't");
        StepperHearts x = new StepperHearts();
        due("trouble() of a new object", x.trouble(), 0);
        CHECK.refused("run", x, x.run(0, 1), 4);
        due("trouble() again", x.trouble(), 4);
        CHECK.refused("told", x, x.told(0), 5);
        CHECK.taken("join", x, x.join(0, 0), 1);
        CHECK.refused("join", x, x.join(0, 0), 2);
        CHECK.refused("program", x, x.program(1), 1);
        CHECK.taken("program", x, Check.tell(x, "halt;"), 1);
        CHECK.refused("program", x, Check.tell(x, "nay;"), 3);
        CHECK.taken("joined", x, x.joined(), 0);
        CHECK.refused("most", x, x.most(), 5);
        CHECK.taken("run", x, x.run(0, 1), 0);
        CHECK.refused("traces", x, x.told(9), 1);
        CHECK.taken("traces", x, x.traces(), 0);
        CHECK.refused("cost", x, x.cost(9, 9), 1);
        CHECK.taken("cost", x, x.cost(0, 9), 7);
        CHECK.refused("cheapest", x, x.cheapest(0), 1);
        CHECK.taken("cheapest", x, x.cheapest(9), 1);
        CHECK.refused("gain", x, x.gain(0), 1);
        CHECK.taken("gain", x, x.gain(9), 0);
        CHECK.refused("told", x, x.told(-1), 1);
        CHECK.taken("told", x, x.told(5), 1);
        CHECK.refused("run", x, x.run(-1, 1), 1);
        CHECK.taken("most", x, x.most(), -2);
    }

    private static void troubleByEachNumber() {
        CHECK.sentence("V. 1 a number; 2 no room; 3 a FAULT; 4 no PROGRAM; 5 nothing was run");
        StepperHearts x = new StepperHearts();
        CHECK.refused("joined()", x, x.joined(), 4);
        CHECK.refused("run(9, 9)", x, x.run(9, 9), 4);
        CHECK.refused("cost(9, 9)", x, x.cost(9, 9), 4);
        CHECK.refused("cheapest(-9)", x, x.cheapest(-9), 4);
        CHECK.refused("gain(-9)", x, x.gain(-9), 4);
        CHECK.refused("told(9)", x, x.told(9), 5);
        CHECK.refused("most()", x, x.most(), 5);
        CHECK.refused("traces()", x, x.traces(), 5);
        CHECK.refused("program(-1)", x, x.program(-1), 1);
        CHECK.refused("program(0)", x, x.program(0), 3);
        CHECK.refused("join(-1, 9)", x, x.join(-1, 9), 1);
        Check.tell(x, "halt;");
        CHECK.refused("told(9) of no run", x, x.told(9), 5);
        CHECK.refused("most() of no run", x, x.most(), 5);
        CHECK.refused("traces() of no run", x, x.traces(), 5);
        x.run(0, 9);
        CHECK.refused("told(9)", x, x.told(9), 1);
    }

    private static void troubleIsLeftByOthers() {
        CHECK.sentence("V. TROUBLE of the latest call that may be refused by one of these numbers");
        for (int trouble = 0; trouble <= 5; trouble++) {
            StepperHearts x = new StepperHearts();
            makeTrouble(x, trouble);
            for (int which = 0; which < 20; which++) {
                callWithoutNumber(x, which);
                due("trouble() behind " + which, x.trouble(), trouble);
            }
            for (int i = 0; i < 31; i++) {
                due("feed", x.feed(0, 0, 0, 0, 0), i < 30 ? 20 * (i + 1) : -1);
                due("trouble() behind a feed, whose promise names no number", x.trouble(), trouble);
                due("where() behind a feed", x.where(), trouble == 3 ? 0 : -1);
            }
        }
    }

    private static void makeTrouble(StepperHearts x, int trouble) {
        switch (trouble) {
            case 0 -> due("join", x.join(0, 0), 1);
            case 1 -> due("join", x.join(0, 15), -1);
            case 2 -> due("join", Math.max(x.join(0, 0), 1) * x.join(0, 0), -1);
            case 3 -> due("program", x.program(0), -1);
            case 4 -> due("run", x.run(0, 1), -1);
            default -> due("told", x.told(0), -1);
        }
        due("trouble()", x.trouble(), trouble);
    }

    private static void callWithoutNumber(StepperHearts x, int which) {
        switch (which) {
            case 0 -> x.fault();
            case 1 -> x.where();
            case 2 -> x.order(0, 0);
            case 3 -> x.order(-1, 9);
            case 4 -> x.input(MIN);
            case 5 -> x.part();
            case 6 -> CHECK.noOut(x, 0);
            case 7 -> CHECK.noOut(x, MAX);
            case 8 -> CHECK.noPile(x, 0);
            case 9 -> CHECK.noPile(x, MIN);
            case 10 -> x.cell(0);
            case 11 -> x.cell(MAX);
            case 12 -> x.did(0);
            case 13 -> x.did(15);
            case 14 -> x.follows(0, 0);
            case 15 -> x.follows(15, -1);
            case 16 -> x.trace(0);
            case 17 -> x.better();
            case 18 -> x.count(0);
            default -> x.count(9);
        }
    }
}
