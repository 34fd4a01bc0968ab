/** Texts and the faults that they have (promises 2 to 6, 26). */
final class FaultTest {
    private static final Check CHECK = new Check("FaultTest");

    public static void main(String[] args) {
        goodTexts();
        form();
        unknown();
        twice();
        cells();
        many();
        firstFromTheLeft();
        stateOfFaults();
        CHECK.end();
    }

    private static void good(String text, int orders) {
        StepperHearts x = new StepperHearts();
        CHECK.due("program of '" + text + "'", Check.tell(x, text), orders);
        CHECK.due("fault of '" + text + "'", x.fault(), 0);
        CHECK.due("where of '" + text + "'", x.where(), -1);
        CHECK.due("trouble of '" + text + "'", x.trouble(), 0);
    }

    private static void bad(String text, int fault, int where) {
        StepperHearts x = new StepperHearts();
        CHECK.due("program of '" + text + "'", Check.tell(x, text), -1);
        CHECK.due("trouble of '" + text + "'", x.trouble(), 3);
        CHECK.due("fault of '" + text + "'", x.fault(), fault);
        CHECK.due("where of '" + text + "'", x.where(), where);
    }

    private static void goodTexts() {
        good("halt;", 1);
        good("push5;", 1);
        good("push 5;drop;", 2);
        good("\n push\n5 ;\n", 1);
        good("a:drop;", 1);
        good("a :drop;", 1);
        good("abcdefgh: jump abcdefgh;", 1);
        good("push 999;", 1);
        good("push 000;", 1);
        good("get 007; set 7;", 2);
        good("drop: drop;", 1);
        good("jump: jump jump;", 1);
        good("zero zero; zero: halt;", 2);
        good("a: halt; ab: halt; b: halt; jump ab;", 4);
        good(Check.repeat("out;", 100), 100);
        good("drop;dup;swap;over;add;sub;mul;less;out;halt;push 1;get 1;set 1;a:jump a;zero a;", 15);
    }

    private static void form() {
        bad("", 1, 0);
        bad(" \n ", 1, 3);
        bad(";", 1, 0);
        bad(":", 1, 0);
        bad("5;", 1, 0);
        bad("drop", 1, 4);
        bad("drop ", 1, 5);
        bad("drop;;", 1, 5);
        bad("drop:", 1, 5);
        bad("a:", 1, 2);
        bad("a::", 1, 2);
        bad("a: 5;", 1, 3);
        bad("push;", 1, 4);
        bad("push x;", 1, 5);
        bad("push 1 2;", 1, 7);
        bad("push 1000;", 1, 5);
        bad("push 12a;", 1, 7);
        bad("push -1;", 1, 5);
        bad("get;", 1, 3);
        bad("get x;", 1, 4);
        bad("set", 1, 3);
        bad("jump 5;", 1, 5);
        bad("jump;", 1, 4);
        bad("zero :", 1, 6);
        bad("drop; a: zero :", 1, 14);
        bad("a: zero ;", 1, 8);
        bad("drop 1;", 1, 5);
        bad("drop a;", 1, 5);
        bad("abcdefghi: drop;", 1, 0);
        bad("jump abcdefghi;", 1, 5);
        bad("drop; abcdefghi", 1, 6);
        bad("Drop;", 1, 0);
        bad("drop; \t", 1, 6);
        bad("drop\r;", 1, 4);
        bad("drop; \u00e9", 1, 6);
        bad("\u0000drop;", 1, 0);
        bad("drop; {", 1, 6);
        bad("drop; `", 1, 6);
        bad("push /;", 1, 5);
    }

    private static void unknown() {
        bad("foo;", 2, 0);
        bad("foo", 2, 0);
        bad("drop; foo", 2, 6);
        bad("foo?", 2, 0);
        bad("foo 5;", 2, 0);
        bad("pus 1;", 2, 0);
        bad("pushe 1;", 2, 0);
        bad("foo foo:", 2, 0);
        bad("a: foo;", 2, 3);
        bad("a: b: drop;", 2, 3);
        bad("jump x;", 2, 5);
        bad("a: zero b; jump c;", 2, 8);
        bad("a: jump a; jump ab;", 2, 16);
        bad("ab: jump a;", 2, 9);
        bad("jump jump;", 2, 5);
    }

    private static void twice() {
        bad("a: drop; a: dup;", 3, 9);
        bad("a: drop; a:", 3, 9);
        bad("a: drop; a : foo;", 3, 9);
        bad("drop: drop; drop: dup;", 3, 12);
        bad("a: drop; b: dup; a: out;", 3, 17);
        bad("a: drop; a;", 2, 9);
        good("a: drop; aa: dup;", 2);
    }

    private static void cells() {
        bad("get 8;", 4, 4);
        bad("set 8", 4, 4);
        bad("set 999?", 4, 4);
        bad("get 008;", 4, 4);
        bad("get 0010;", 1, 4);
        good("set 0; get 7;", 2);
    }

    private static void many() {
        String hundred = Check.repeat("out;", 100);
        good(hundred + "\n", 100);
        bad(hundred + "out;", 5, 400);
        bad(hundred + "push", 5, 400);
        bad(hundred + "push 1000;", 5, 400);
        bad(hundred + "foo;", 2, 400);
        bad(hundred + "m: out;", 5, 403);
        bad(hundred + "m: foo;", 2, 403);
        bad(hundred + "m:;", 1, 402);
        bad(hundred + ";", 1, 400);
        bad(hundred + "out:", 1, 404);
        bad("a: " + hundred + "a: out;", 3, 403);
        bad(hundred + "m: out; m: out;", 5, 403);
        bad(Check.repeat("out;", 99) + "jump x;out;", 5, 403);
    }

    private static void firstFromTheLeft() {
        bad("jump x; get 8;", 4, 12);
        bad("jump x; ?", 1, 8);
        bad("get 8; foo;", 4, 4);
        bad("foo; get 8;", 2, 0);
        bad("a: drop; a: get 9;", 3, 9);
        bad("a: get 9; a: drop;", 4, 7);
    }

    private static void stateOfFaults() {
        StepperHearts x = new StepperHearts();
        CHECK.due("fault ahead", x.fault(), 0);
        CHECK.due("where ahead", x.where(), -1);
        Check.feedText(x, "foo;");
        CHECK.due("program(21)", x.program(21), -1);
        CHECK.due("trouble", x.trouble(), 1);
        CHECK.due("the tape stays", x.count(2), 20);
        CHECK.due("program(-1)", x.program(-1), -1);
        CHECK.due("trouble", x.trouble(), 1);
        CHECK.due("program(4)", x.program(4), -1);
        CHECK.due("the tape is empty", x.count(2), 0);
        CHECK.due("fault", x.fault(), 2);
        CHECK.due("where", x.where(), 0);
        CHECK.due("program(5)", x.program(5), -1);
        CHECK.due("the fault stays behind a refusal by 1", x.fault(), 2);
        CHECK.due("where doesn't", x.where(), -1);
        CHECK.due("program of 'halt;'", Check.tell(x, "halt;"), 1);
        CHECK.due("fault behind a good one", x.fault(), 0);
        CHECK.due("program of 'get 9;'", Check.tell(x, "get 9;"), -1);
        CHECK.due("the former program stays", x.count(0), 1);
        CHECK.due("its order, too", x.order(0, 0), 14);
        CHECK.due("where", x.where(), 4);
        CHECK.due("run(0, 1)", x.run(0, 1), 0);
        CHECK.due("where behind a run", x.where(), -1);
        CHECK.due("the fault stays behind a run", x.fault(), 4);
        CHECK.due("program of 'get 9;'", Check.tell(x, "get 9;"), -1);
        CHECK.due("join(15, 0)", x.join(15, 0), -1);
        CHECK.due("where behind a refusal by 1", x.where(), -1);
    }
}
