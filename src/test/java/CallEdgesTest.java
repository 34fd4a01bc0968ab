/** Promises 1 to 20: each sentence that names a boundary has a function of its own. */
final class CallEdgesTest {
    private static final Check CHECK = new Check("CallEdgesTest");
    private static final int MIN = Integer.MIN_VALUE;
    private static final int MAX = Integer.MAX_VALUE;
    private static final int HEARTS = 5;
    private static final int KINDS = 15;
    private static final int BLANKS = 0x20202020;

    public static void main(String[] args) {
        newObject();
        feedTwentyBytes();
        feedHighestFirst();
        feedBeyond();
        programOfFirstBytes();
        programRefusedByOne();
        programRefusedByThree();
        programInPlaceOfTheFormer();
        faultOfTheLatestProgram();
        whereByThreeAlone();
        orderAtAPlace();
        orderThatIsNone();
        inputIsKept();
        joinOfTwoKinds();
        joinRefused();
        partOfNone();
        joinedWithoutProgram();
        runRefused();
        toldOfTheLatestRun();
        toldRefused();
        placeAtWhichItEnded();
        mostAtOnce();
        outThatIsNone();
        pileThatIsNone();
        cellOfOthers();
        didOfKinds();
        followsOfPairs();
        mostOfPairs();
        tracesByOthers();
        traceOfPlaces();
        CHECK.end();
    }

    private static void due(String call, long got, long want) {
        CHECK.due(call, got, want);
    }

    private static void newObject() {
        CHECK.sentence("Promise 1: No PROGRAM, no JOINS");
        StepperHearts x = new StepperHearts();
        due("trouble()", x.trouble(), 0);
        due("count(0)", x.count(0), 0);
        due("count(1)", x.count(1), 0);
        due("count(2)", x.count(2), 0);
        due("fault()", x.fault(), 0);
        due("where()", x.where(), -1);
        due("part()", x.part(), 0);
        CHECK.refused("joined()", x, x.joined(), 4);
        CHECK.refused("run(0, 1)", x, x.run(0, 1), 4);
        CHECK.refused("told(0)", x, x.told(0), 5);
        StepperHearts other = CHECK.told("halt;");
        other.join(0, 0);
        other.run(0, 1);
        due("count(0) beside another object", x.count(0), 0);
        due("count(1) beside another object", x.count(1), 0);
        CHECK.refused("told(0) beside another object", x, x.told(0), 5);
    }

    private static void feedTwentyBytes() {
        CHECK.sentence("Promise 2: Twenty bytes come behind THE TAPE: how many it has");
        StepperHearts x = new StepperHearts();
        for (int i = 1; i <= 30; i++) {
            due("feed " + i, x.feed(BLANKS, BLANKS, BLANKS, BLANKS, BLANKS), 20 * i);
            due("count(2)", x.count(2), 20 * i);
        }
        x = new StepperHearts();
        Check.feedText(x, "push 1; push 22; push 333; push 4; halt;");
        CHECK.taken("program(40)", x, x.program(40), 5);
        int[] wholes = {1, 22, 333, 4, 0};
        for (int k = 0; k < 5; k++) {
            due("order(" + k + ", 1)", x.order(k, 1), wholes[k]);
        }
        due("feed onto an empty TAPE", x.feed(0, 0, 0, 0, 0), 20);
    }

    private static void feedHighestFirst() {
        CHECK.sentence("Promise 2: of each number the highest first");
        String text = "abcd:out;jump abcd; ";
        for (int at = 0; at < 20; at++) {
            // the byte of 255 stands at its own place of the twenty and is the first FAULT
            int[] n = new int[5];
            for (int i = 0; i < 5; i++) {
                n[i] = Check.four(text, 4 * i);
            }
            n[at / 4] |= 255 << 24 - 8 * (at % 4);
            StepperHearts x = new StepperHearts();
            x.feed(n[0], n[1], n[2], n[3], n[4]);
            CHECK.refused("program(20)", x, x.program(20), 3);
            int place = at < 5 ? 0 : at < 8 ? 5 : at > 9 && at < 13 ? 9 : at;
            due("where() of the " + at + "th byte", x.where(), place);
        }
        StepperHearts x = new StepperHearts();
        x.feed(-1, MIN, MAX, 0x80000000, 0xff);
        CHECK.refused("program(1)", x, x.program(1), 3);
        due("where()", x.where(), 0);
        x.feed(0x6f75743b, BLANKS, BLANKS, BLANKS, BLANKS);
        CHECK.taken("program(20)", x, x.program(20), 1);
        due("order(0, 0)", x.order(0, 0), 13);
    }

    private static void feedBeyond() {
        CHECK.sentence("Promise 2: NONE, and none comes, if there would be more than 600");
        StepperHearts x = new StepperHearts();
        Check.feedText(x, " ".repeat(560) + "push 77; halt;");
        due("count(2)", x.count(2), 580);
        due("feed up to 600", x.feed(BLANKS, BLANKS, BLANKS, BLANKS, BLANKS), 600);
        for (int i = 0; i < 3; i++) {
            due("feed beyond 600", x.feed(-1, -1, -1, -1, -1), -1);
            due("count(2)", x.count(2), 600);
        }
        due("program(600)", x.program(600), 2);
        due("order(0, 1)", x.order(0, 1), 77);
        due("feed behind program()", x.feed(-1, -1, -1, -1, -1), 20);
    }

    private static void programOfFirstBytes() {
        CHECK.sentence("Promise 3: The first n bytes of THE TAPE (it is empty then) are the PROGRAM");
        int[] ends = {4, 9, 14, 20};
        for (int i = 0; i < ends.length; i++) {
            StepperHearts x = new StepperHearts();
            Check.feedText(x, "out;drop;halt;  dup;?");
            due("count(2)", x.count(2), 40);
            CHECK.taken("program(" + ends[i] + ")", x, x.program(ends[i]), i + 1);
            due("count(2)", x.count(2), 0);
            due("count(0)", x.count(0), i + 1);
        }
        StepperHearts x = new StepperHearts();
        CHECK.refused("program(0) of an empty TAPE", x, x.program(0), 3);
        due("fault()", x.fault(), 1);
        due("where()", x.where(), 0);
        Check.feedText(x, "out;");
        CHECK.refused("program(0) of a TAPE that isn't", x, x.program(0), 3);
        due("fault()", x.fault(), 1);
        due("where()", x.where(), 0);
        due("count(2)", x.count(2), 0);
    }

    private static void programRefusedByOne() {
        CHECK.sentence("Promise 3: NONE: 1 (THE TAPE stays)");
        StepperHearts x = new StepperHearts();
        for (int n : new int[] {1, -1, 20, 600, 601, MIN, MAX}) {
            CHECK.refused("program(" + n + ") of an empty TAPE", x, x.program(n), 1);
        }
        Check.feedText(x, "push 5; halt;");
        for (int n : new int[] {21, -1, 22, 40, 600, 601, MIN, MIN + 20, MAX}) {
            CHECK.refused("program(" + n + ")", x, x.program(n), 1);
            due("count(2)", x.count(2), 20);
            due("count(0)", x.count(0), 0);
            due("where()", x.where(), -1);
        }
        CHECK.taken("program(20)", x, x.program(20), 2);
        CHECK.refused("program(1) behind that", x, x.program(1), 1);
        due("the former one stays", x.count(0), 2);
    }

    private static void programRefusedByThree() {
        CHECK.sentence("Promise 3: 3 (the former one stays)");
        StepperHearts x = CHECK.told("a: push 5; jump a;");
        x.run(1, 7);
        String[] texts = {"", "nay;", "out; out; out; out; get 8;", "b: b: out;", "jump nay; c: dup;", "out;".repeat(101)};
        for (String text : texts) {
            CHECK.refused("program of '" + text + "'", x, Check.tell(x, text), 3);
            due("count(0)", x.count(0), 2);
            due("count(2)", x.count(2), 0);
            due("order(0, 0)", x.order(0, 0), 0);
            due("order(0, 1)", x.order(0, 1), 5);
            due("order(0, 2)", x.order(0, 2), 1);
            due("order(1, 0)", x.order(1, 0), 11);
            due("order(1, 1)", x.order(1, 1), 0);
            due("order(1, 2)", x.order(1, 2), 0);
            due("order(2, 0)", x.order(2, 0), -1);
            CHECK.taken("run(1, 9)", x, x.run(1, 9), 1);
            due("told(4)", x.told(4), 1);
        }
    }

    private static void programInPlaceOfTheFormer() {
        CHECK.sentence("Promise 3: (in place of the former one)");
        StepperHearts x = CHECK.told("a: push 5; b: out; c: jump c; d: zero a;");
        CHECK.taken("program of 'out; get 3;'", x, Check.tell(x, "out; get 3;"), 2);
        int[][] orders = {{13, 0, 0}, {9, 3, 0}, {-1, -1, -1}, {-1, -1, -1}};
        for (int k = 0; k < orders.length; k++) {
            for (int what = 0; what < 3; what++) {
                due("order(" + k + ", " + what + ")", x.order(k, what), orders[k][what]);
            }
        }
        CHECK.refused("a MARK of a former one is none", x, Check.tell(x, "jump a;"), 3);
        due("where()", x.where(), 5);
        CHECK.taken("a MARK of a former one isn't TWICE", x, Check.tell(x, "a: out;"), 1);
        due("run", x.run(0, 9), 4);
        // the same byte of THE TAPE, and the same place of the PROGRAM, but no MARK
        CHECK.taken("a MARK at byte 5", x, Check.tell(x, "     a: out;"), 1);
        CHECK.refused("a MARK of a former one is none", x, Check.tell(x, "jump a;"), 3);
        CHECK.taken("a MARK at byte 5", x, Check.tell(x, "     a: out;"), 1);
        CHECK.taken("a MARK of a former one isn't TWICE", x, Check.tell(x, "out; a: out;"), 2);
        CHECK.refused("a WORD of a former one is none", x, Check.tell(x, "out; jump out;"), 3);
        CHECK.refused("a letter of an ORDER is no MARK", x, Check.tell(x, "out; jump o;"), 3);
    }

    private static void faultOfTheLatestProgram() {
        CHECK.sentence("Promise 4: The FAULT of the latest program() not refused by 1; 0 without one");
        StepperHearts x = new StepperHearts();
        due("fault() ahead of any", x.fault(), 0);
        x.program(1);
        due("fault() behind a refusal by 1 alone", x.fault(), 0);
        String[] texts = {"?", "nay;", "a: out; a: out;", "get 8;", "out;".repeat(101)};
        for (int i = 0; i < texts.length; i++) {
            Check.tell(x, texts[i]);
            due("fault() of '" + texts[i] + "'", x.fault(), i + 1);
            x.program(1);
            due("fault() behind a refusal by 1", x.fault(), i + 1);
            x.join(99, 99);
            x.run(0, 1);
            x.told(0);
            due("fault() behind other calls", x.fault(), i + 1);
        }
        Check.tell(x, "out;");
        due("fault() of a good one", x.fault(), 0);
        x.program(1);
        due("fault() behind a refusal by 1", x.fault(), 0);
    }

    private static void whereByThreeAlone() {
        CHECK.sentence("Promise 5: Its place, if the latest call that may be refused was by 3; NONE else");
        StepperHearts x = new StepperHearts();
        due("where() ahead of any", x.where(), -1);
        for (int which = 0; which < 10; which++) {
            CHECK.refused("program of 'out; nay;'", x, Check.tell(x, "out; nay;"), 3);
            due("where()", x.where(), 5);
            due("where() again", x.where(), 5);
            x.fault();
            x.trouble();
            x.input(4);
            x.part();
            x.cell(0);
            due("where() behind calls that can't be refused", x.where(), 5);
            refuseOne(x, which);
            due("where() behind a refusal by another number", x.where(), -1);
        }
        Check.tell(x, "nay;");
        Check.tell(x, "out;");
        due("where() behind a good one", x.where(), -1);
        Check.tell(x, "out; nay;");
        x.run(0, 1);
        due("where() behind a run", x.where(), -1);
        due("fault() behind a run", x.fault(), 2);
        Check.tell(x, "out; nay;");
        x.join(0, 0);
        due("where() behind a join", x.where(), -1);
    }

    private static void refuseOne(StepperHearts x, int which) {
        switch (which) {
            case 0 -> due("join", x.join(15, 0), -1);
            case 1 -> due("joined", x.joined(), -1);
            case 2 -> due("run", x.run(0, 1), -1);
            case 3 -> due("told", x.told(0), -1);
            case 4 -> due("most", x.most(), -1);
            case 5 -> due("traces", x.traces(), -1);
            case 6 -> due("cost", x.cost(0, 1), -1);
            case 7 -> due("cheapest", x.cheapest(1), -1);
            case 8 -> due("gain", x.gain(1), -1);
            default -> due("program", x.program(1), -1);
        }
    }

    private static void orderAtAPlace() {
        CHECK.sentence("Promise 6: 0 its kind, 1 its WHOLE, CELL or the place to which it jumps (0 without), 2 whether a MARK stands there (1)");
        StepperHearts x = CHECK.told("push 999; b: push 0; get 0; set 7; jump b; c: zero c; out; d: halt;");
        int[][] orders = {{0, 999, 0}, {0, 0, 1}, {9, 0, 0}, {10, 7, 0}, {11, 1, 0}, {12, 5, 1}, {13, 0, 0}, {14, 0, 1}};
        for (int k = 0; k < orders.length; k++) {
            for (int what = 0; what < 3; what++) {
                due("order(" + k + ", " + what + ")", x.order(k, what), orders[k][what]);
            }
        }
    }

    private static void orderThatIsNone() {
        CHECK.sentence("Promise 6: NONE");
        StepperHearts x = new StepperHearts();
        int[] odd = {-1, 3, 4, 99, 100, MIN, MAX};
        for (int what = 0; what < 3; what++) {
            due("order(0, " + what + ") ahead of a PROGRAM", x.order(0, what), -1);
        }
        Check.tell(x, "a: out; b: dup; c: halt;");
        for (int number : odd) {
            for (int i = 0; i < 3; i++) {
                due("order(" + number + ", " + i + ")", x.order(number, i), -1);
                due("order(" + i + ", " + number + ")", x.order(i, number), -1);
            }
            due("order(" + number + ", " + number + ")", x.order(number, number), -1);
        }
        due("order(2, 0)", x.order(2, 0), 14);
        due("order(2, 2)", x.order(2, 2), 1);
    }

    private static void inputIsKept() {
        CHECK.sentence("Promise 7: INPUT");
        StepperHearts x = new StepperHearts();
        x.input(-9);
        Check.tell(x, "out; halt;");
        for (int heart = 0; heart < HEARTS; heart++) {
            x.run(heart, 9);
            CHECK.dueOut(x, 0, -9);
        }
        x.input(8);
        CHECK.dueOut(x, 0, -9);
        x.cost(0, 9);
        CHECK.dueOut(x, 0, -9);
        Check.tell(x, "nay;");
        x.run(0, 9);
        CHECK.dueOut(x, 0, 8);
        Check.tell(x, "l: push 1; sub; dup; zero e; jump l; e: halt;");
        x.input(5);
        due("cost with 5", x.cost(1, 5000), 4 * (6 + 8 + 8 + 6 + 5) + 28 + 5);
        due("cheapest with 5", x.cheapest(5000), 3);
        due("gain with 5", x.gain(5000), 20);
        x.input(2);
        due("cost with 2", x.cost(1, 5000), 33 + 28 + 5);
        due("gain with 2", x.gain(5000), 8);
        x.input(500);
        due("cheapest with 500", x.cheapest(5000), 4);
    }

    private static void joinOfTwoKinds() {
        CHECK.sentence("Promise 8: A JOIN of two kinds (0 .. 14) more: how many");
        for (int first = 0; first < KINDS; first++) {
            StepperHearts x = new StepperHearts();
            for (int second = 0; second < KINDS; second++) {
                x.part();
                CHECK.taken("join(" + first + ", " + second + ")", x, x.join(first, second), 1);
            }
        }
        StepperHearts x = new StepperHearts();
        for (int i = 0; i < 10; i++) {
            CHECK.taken("join(" + i + ", " + (14 - i) + ")", x, x.join(i, 14 - i), i + 1);
            due("count(1)", x.count(1), i + 1);
        }
    }

    private static void joinRefused() {
        CHECK.sentence("Promise 8: NONE: 1; 2 (also one that is told)");
        StepperHearts x = new StepperHearts();
        int[] odd = {-1, 15, 16, 100, -15, MIN, MAX};
        for (int number : odd) {
            CHECK.refused("join(" + number + ", 0)", x, x.join(number, 0), 1);
            CHECK.refused("join(0, " + number + ")", x, x.join(0, number), 1);
            CHECK.refused("join(" + number + ", " + number + ")", x, x.join(number, number), 1);
        }
        due("count(1)", x.count(1), 0);
        CHECK.taken("join(1, 2)", x, x.join(1, 2), 1);
        CHECK.refused("join(1, 2), told", x, x.join(1, 2), 2);
        CHECK.taken("join(2, 1)", x, x.join(2, 1), 2);
        due("count(1)", x.count(1), 2);
        for (int i = 3; i <= 10; i++) {
            x.join(i, i);
        }
        CHECK.refused("join(11, 11), an eleventh", x, x.join(11, 11), 2);
        CHECK.refused("join(1, 2), told and an eleventh", x, x.join(1, 2), 2);
        CHECK.refused("join(15, 1), 1 ahead of 2", x, x.join(15, 1), 1);
        CHECK.refused("join(1, -1), 1 ahead of 2", x, x.join(1, -1), 1);
        due("count(1)", x.count(1), 10);
    }

    private static void partOfNone() {
        CHECK.sentence("Promise 9: No JOINS: how many there were");
        StepperHearts x = CHECK.told("dup; drop; halt;");
        due("part() of none", x.part(), 0);
        for (int times = 1; times <= 3; times++) {
            x.join(2, 1);
            due("joined()", x.joined(), 1);
            due("part() of one", x.part(), 1);
            due("joined()", x.joined(), 0);
            due("cost", x.cost(2, 9), 8 + 6 + 5);
            due("count(1)", x.count(1), 0);
            due("part() of none", x.part(), 0);
        }
        for (int i = 0; i < 10; i++) {
            x.join(i, i);
        }
        due("part() of ten", x.part(), 10);
        CHECK.taken("join(0, 0) again", x, x.join(0, 0), 1);
    }

    private static void joinedWithoutProgram() {
        CHECK.sentence("Promise 10: How many pairs of places of the PROGRAM are joined; NONE (4)");
        StepperHearts x = new StepperHearts();
        x.join(13, 14);
        CHECK.refused("joined() ahead of a PROGRAM", x, x.joined(), 4);
        Check.tell(x, "nay;");
        CHECK.refused("joined() behind a FAULT", x, x.joined(), 4);
        Check.tell(x, "out;");
        CHECK.taken("joined() of one ORDER", x, x.joined(), 0);
        Check.tell(x, "out;halt;".repeat(50));
        CHECK.taken("joined() of 100", x, x.joined(), 50);
        x.part();
        CHECK.taken("joined() without JOINS", x, x.joined(), 0);
    }

    private static void runRefused() {
        CHECK.sentence("Promise 11: A run by a HEART (0 .. 4) with FUEL. NONE: 4; 1");
        StepperHearts x = new StepperHearts();
        CHECK.refused("run(0, 1)", x, x.run(0, 1), 4);
        CHECK.refused("run(5, 0), 4 ahead of 1", x, x.run(5, 0), 4);
        CHECK.refused("run(-1, 5001), 4 ahead of 1", x, x.run(-1, 5001), 4);
        Check.tell(x, "nay;");
        CHECK.refused("run(0, 1) behind a FAULT", x, x.run(0, 1), 4);
        Check.tell(x, "dup; halt;");
        for (int heart : new int[] {-1, 5, 6, 100, MIN, MAX}) {
            CHECK.refused("run(" + heart + ", 9)", x, x.run(heart, 9), 1);
            CHECK.refused("run(" + heart + ", 0)", x, x.run(heart, 0), 1);
        }
        CHECK.refused("told(0): nothing was run", x, x.told(0), 5);
        for (int heart = 0; heart < HEARTS; heart++) {
            CHECK.taken("run(" + heart + ", 9)", x, x.run(heart, 9), 0);
            CHECK.refused("run(" + heart + ", 0)", x, x.run(heart, 0), 1);
            CHECK.refused("run(" + heart + ", 5001)", x, x.run(heart, 5001), 1);
            CHECK.taken("told(0) of the latest run", x, x.told(0), 2);
        }
    }

    private static void toldOfTheLatestRun() {
        CHECK.sentence("Promise 12: 0 steps, 1 COST, 2 how many are on the PILE, 3 OUTS, 4 the place, 5 the most");
        StepperHearts x = CHECK.told("push 1; push 2; push 3; out; drop; out; halt;");
        int[] want = {7, 3 * 8 + 3 * 8 + 7, 1, 2, 6, 4};
        x.run(0, 99);
        for (int what = 0; what < 6; what++) {
            CHECK.taken("told(" + what + ")", x, x.told(what), want[what]);
        }
        int[] less = {1, 8, 2, 0, 1, 2};
        x.run(0, 1);
        for (int what = 0; what < 6; what++) {
            CHECK.taken("told(" + what + ") of a run with 1", x, x.told(what), less[what]);
        }
        int[] none = {0, 0, 1, 0, 0, 1};
        Check.tell(x, "swap;");
        x.run(0, 99);
        for (int what = 0; what < 6; what++) {
            CHECK.taken("told(" + what + ") of no step", x, x.told(what), none[what]);
        }
    }

    private static void toldRefused() {
        CHECK.sentence("Promise 12: NONE: 5; 1");
        StepperHearts x = new StepperHearts();
        CHECK.refused("told(0)", x, x.told(0), 5);
        CHECK.refused("told(6), 5 ahead of 1", x, x.told(6), 5);
        CHECK.refused("told(-1), 5 ahead of 1", x, x.told(-1), 5);
        Check.tell(x, "halt;");
        x.cost(0, 9);
        x.cheapest(9);
        x.gain(9);
        x.run(0, 0);
        CHECK.refused("told(0) behind calls that run nothing", x, x.told(0), 5);
        x.run(0, 1);
        for (int what : new int[] {-1, 6, 7, 100, MIN, MAX}) {
            CHECK.refused("told(" + what + ")", x, x.told(what), 1);
        }
        CHECK.taken("told(0)", x, x.told(0), 1);
    }

    private static void placeAtWhichItEnded() {
        CHECK.sentence("Promise 12: (that of the step that wasn't done, or that halted; else the next one)");
        String[] texts = {"halt;", "dup; halt;", "drop; drop;", "dup; dup;", "a: dup; jump a;", "jump a; dup; a: halt;"};
        int[] fuels = {9, 9, 9, 9, 2, 1};
        int[] ends = {0, 0, 2, 4, 1, 1};
        int[] places = {0, 1, 1, 2, 0, 2};
        for (int i = 0; i < texts.length; i++) {
            StepperHearts x = CHECK.told(texts[i]);
            for (int heart = 0; heart < HEARTS; heart++) {
                due("run of '" + texts[i] + "'", x.run(heart, fuels[i]), ends[i]);
                due("told(4)", x.told(4), places[i]);
            }
        }
        StepperHearts x = CHECK.told("dup; ".repeat(32));
        due("run", x.run(0, 99), 3);
        due("told(4) of a FULL", x.told(4), 31);
        x = CHECK.told("dup;drop;".repeat(50));
        due("run", x.run(0, 5000), 4);
        due("told(4) behind the 100th", x.told(4), 100);
    }

    private static void mostAtOnce() {
        CHECK.sentence("Promise 12: 5 the most that were on the PILE at once");
        String[] texts = {"drop;", "halt;", "dup; drop; drop;", "dup; dup; drop; drop; dup;", "dup; over; add; add; drop;",
            "swap;", "push 1; zero a; a: push 1; out;"};
        int[] most = {1, 1, 2, 3, 3, 1, 2};
        for (int i = 0; i < texts.length; i++) {
            StepperHearts x = CHECK.told(texts[i]);
            x.run(0, 99);
            due("told(5) of '" + texts[i] + "'", x.told(5), most[i]);
        }
        StepperHearts x = CHECK.told("dup; ".repeat(31) + "drop; ".repeat(31));
        x.run(0, 99);
        due("told(5)", x.told(5), 32);
        due("told(2)", x.told(2), 1);
        x.run(0, 31);
        due("told(5)", x.told(5), 32);
        x.run(0, 30);
        due("told(5)", x.told(5), 31);
    }

    private static void outThatIsNone() {
        CHECK.sentence("Promise 13: NoSuchElementException if there is none such");
        StepperHearts x = new StepperHearts();
        int[] odd = {-1, -60, 60, 61, 100, MIN, MAX};
        CHECK.noOut(x, 0);
        Check.tell(x, "out; halt;");
        CHECK.noOut(x, 0);
        x.cost(0, 9);
        CHECK.noOut(x, 0);
        x.input(6);
        x.run(0, 9);
        CHECK.dueOut(x, 0, 6);
        CHECK.noOut(x, 1);
        for (int i : odd) {
            CHECK.noOut(x, i);
        }
        due("trouble() behind those", x.trouble(), 0);
        x.run(5, 9);
        CHECK.dueOut(x, 0, 6);
        Check.tell(x, "halt;");
        CHECK.dueOut(x, 0, 6);
        x.run(0, 9);
        CHECK.noOut(x, 0);
    }

    private static void pileThatIsNone() {
        CHECK.sentence("Promise 14: NoSuchElementException if there is none such");
        StepperHearts x = new StepperHearts();
        int[] odd = {-1, -32, 32, 33, 100, MIN, MAX};
        x.input(6);
        CHECK.noPile(x, 0);
        Check.tell(x, "push 7; halt;");
        CHECK.noPile(x, 0);
        x.cost(0, 9);
        CHECK.noPile(x, 0);
        x.run(0, 9);
        CHECK.duePile(x, 0, 6);
        CHECK.duePile(x, 1, 7);
        CHECK.noPile(x, 2);
        for (int i : odd) {
            CHECK.noPile(x, i);
        }
        due("trouble() behind those", x.trouble(), 0);
        x.input(1);
        x.cost(0, 9);
        CHECK.duePile(x, 0, 6);
        Check.tell(x, "drop; halt;");
        CHECK.duePile(x, 1, 7);
        x.run(0, 9);
        CHECK.noPile(x, 0);
    }

    private static void cellOfOthers() {
        CHECK.sentence("Promise 15: (0 ahead of any); 0 for others");
        StepperHearts x = new StepperHearts();
        for (int k : new int[] {0, 7, 8, -1, MIN, MAX}) {
            due("cell(" + k + ") ahead of any", x.cell(k), 0);
        }
        Check.tell(x, "dup; set 0; set 7; push 5; set 0; halt;");
        x.input(-4);
        due("cell(7) ahead of any", x.cell(7), 0);
        x.cost(0, 9);
        due("cell(7) behind a cost", x.cell(7), 0);
        x.run(0, 9);
        due("cell(0)", x.cell(0), 5);
        due("cell(7)", x.cell(7), -4);
        due("cell(6)", x.cell(6), 0);
        for (int k : new int[] {8, -1, 15, 100, MIN, MAX}) {
            due("cell(" + k + ")", x.cell(k), 0);
        }
        x.run(0, 2);
        due("cell(0) as the latest run ended", x.cell(0), -4);
        due("cell(7) as the latest run ended", x.cell(7), 0);
    }

    private static void didOfKinds() {
        CHECK.sentence("Promise 16: How many steps of a kind the latest run did; NONE");
        StepperHearts x = new StepperHearts();
        due("did(0) ahead of any", x.did(0), -1);
        Check.tell(x, "push 3; l: push 1; sub; dup; zero e; jump l; e: halt;");
        x.cost(0, 99);
        due("did(0) behind a cost", x.did(0), -1);
        for (int heart = 0; heart < HEARTS; heart++) {
            x.run(heart, 99);
            int[] want = {4, 0, 3, 0, 0, 0, 3, 0, 0, 0, 0, 2, 3, 0, 1};
            for (int kind = 0; kind < KINDS; kind++) {
                due("did(" + kind + ")", x.did(kind), want[kind]);
            }
            for (int kind : new int[] {-1, 15, 16, 100, MIN, MAX}) {
                due("did(" + kind + ")", x.did(kind), -1);
            }
        }
    }

    private static void followsOfPairs() {
        CHECK.sentence("Promise 17: How often in the latest run a step of the second kind came right behind one of the first; NONE");
        StepperHearts x = new StepperHearts();
        due("follows(0, 0) ahead of any", x.follows(0, 0), -1);
        Check.tell(x, "push 3; l: push 1; sub; dup; zero e; jump l; e: halt;");
        for (int heart = 0; heart < HEARTS; heart++) {
            x.run(heart, 99);
            int[][] want = {{0, 0, 1}, {0, 6, 3}, {6, 2, 3}, {2, 12, 3}, {12, 11, 2}, {11, 0, 2}, {12, 14, 1}, {12, 0, 0},
                {6, 0, 0}, {14, 0, 0}, {14, 14, 0}};
            for (int[] w : want) {
                due("follows(" + w[0] + ", " + w[1] + ")", x.follows(w[0], w[1]), w[2]);
            }
        }
        for (int number : new int[] {-1, 15, 16, 100, MIN, MAX}) {
            for (int kind : new int[] {0, 6, 14}) {
                due("follows(" + number + ", " + kind + ")", x.follows(number, kind), -1);
                due("follows(" + kind + ", " + number + ")", x.follows(kind, number), -1);
            }
        }
        Check.tell(x, "halt;");
        x.run(0, 9);
        x.run(0, 9);
        due("follows(14, 14) of two runs", x.follows(14, 14), 0);
    }

    private static void mostOfPairs() {
        CHECK.sentence("Promise 18: (of as frequent ones the least number); -2 if none did. NONE (5)");
        StepperHearts x = new StepperHearts();
        CHECK.refused("most()", x, x.most(), 5);
        String[] texts = {"halt;", "swap;", "dup; dup;", "dup; drop; dup; drop;", "dup; drop; dup; drop; dup;",
            "push 1; push 1;", "dup; zero a; a: halt;", "push 1; jump a; a: halt;", "halt; dup;", "drop; drop;"};
        int[] want = {-2, -2, 202, 201, 102, 0, 212, 11, -2, -2};
        for (int i = 0; i < texts.length; i++) {
            Check.tell(x, texts[i]);
            due("run of '" + texts[i] + "'", x.run(0, 99) >= 0 ? 1 : 0, 1);
            CHECK.taken("most() of '" + texts[i] + "'", x, x.most(), want[i]);
        }
        Check.tell(x, "l: jump l;");
        x.run(0, 1);
        CHECK.taken("most() of one step", x, x.most(), -2);
        x.run(0, 2);
        CHECK.taken("most() of two steps", x, x.most(), 1111);
        Check.tell(x, "zero a; a: halt;");
        x.run(0, 9);
        CHECK.taken("most()", x, x.most(), 1214);
    }

    private static void tracesByOthers() {
        CHECK.sentence("Promise 19: (0 by other HEARTS); NONE (5)");
        StepperHearts x = new StepperHearts();
        CHECK.refused("traces()", x, x.traces(), 5);
        Check.tell(x, "a: jump a;");
        x.cost(4, 5000);
        CHECK.refused("traces() behind a cost", x, x.traces(), 5);
        x.run(4, 5000);
        CHECK.taken("traces() by 4", x, x.traces(), 1);
        x.cost(1, 5000);
        CHECK.taken("traces() stays behind a cost", x, x.traces(), 1);
        for (int heart = 0; heart < HEARTS - 1; heart++) {
            x.run(heart, 5000);
            CHECK.taken("traces() by " + heart, x, x.traces(), 0);
            x.cost(4, 5000);
            CHECK.taken("traces() by " + heart + " behind a cost by 4", x, x.traces(), 0);
        }
    }

    private static void traceOfPlaces() {
        CHECK.sentence("Promise 20: 0 without one; NONE for a place that the PROGRAM that was run doesn't have, and ahead of any run");
        StepperHearts x = new StepperHearts();
        due("trace(0) ahead of any run", x.trace(0), -1);
        Check.tell(x, "dup; l: dup; drop; jump l; halt;");
        x.cost(4, 5000);
        due("trace(0) behind a cost", x.trace(0), -1);
        x.run(4, 5000);
        int[] want = {0, 3, 0, 0, 0, -1, -1};
        for (int place = 0; place < want.length; place++) {
            due("trace(" + place + ")", x.trace(place), want[place]);
        }
        for (int place : new int[] {-1, 99, 100, 101, MIN, MAX}) {
            due("trace(" + place + ")", x.trace(place), -1);
        }
        Check.tell(x, "dup;".repeat(20));
        x.cost(4, 5000);
        for (int place = 0; place < want.length; place++) {
            due("trace(" + place + ") with another PROGRAM", x.trace(place), want[place]);
        }
        x.run(1, 1);
        due("trace(1) by another HEART", x.trace(1), 0);
        due("trace(19)", x.trace(19), 0);
        due("trace(20)", x.trace(20), -1);
    }
}
