/** Term II, TEXTS and their FAULTS: each sentence that names a boundary has a function of its own. */
final class TextEdgesTest {
    private static final Check CHECK = new Check("TextEdgesTest");
    private static final String[] WORDS = {"push", "drop", "dup", "swap", "over", "add", "sub", "mul", "less", "get",
        "set", "jump", "zero", "out", "halt"};
    private static final int FORM = 1;
    private static final int UNKNOWN = 2;
    private static final int TWICE = 3;
    private static final int CELL = 4;
    private static final int MANY = 5;

    public static void main(String[] args) {
        tapeOfSixHundred();
        blanksPartTokens();
        blanksMeanNothingElse();
        noOtherSignIsBlank();
        wordsOfOneToEight();
        lettersThatStandTogether();
        smallLetters();
        wordsAreWhole();
        wholesOfOneToThree();
        singleSigns();
        atLeastOneItem();
        itemEndsWithSemicolon();
        itemHasOneMark();
        ordersByTheirNumbers();
        ordersWithWhole();
        ordersWithWord();
        ordersAlone();
        firstFromTheLeft();
        leastNumberOfOnePlace();
        formAtByte();
        formAtToken();
        formAtTheEnd();
        wordThatIsNoOrder();
        markThatIsThere();
        twiceWhenColonIsRead();
        cellBeyondSeven();
        manyOrders();
        manyWhenWordIsRead();
        unknownIsAheadOfMany();
        goalsBehindTheWholeText();
        CHECK.end();
    }

    private static StepperHearts good(String text, int orders) {
        StepperHearts x = new StepperHearts();
        CHECK.taken("program of '" + text + "'", x, Check.tell(x, text), orders);
        CHECK.due("fault of '" + text + "'", x.fault(), 0);
        CHECK.due("where of '" + text + "'", x.where(), -1);
        CHECK.due("orders of '" + text + "'", x.count(0), orders);
        return x;
    }

    private static void bad(String text, int fault, int where) {
        StepperHearts x = new StepperHearts();
        CHECK.refused("program of '" + text + "'", x, Check.tell(x, text), 3);
        CHECK.due("fault of '" + text + "'", x.fault(), fault);
        CHECK.due("where of '" + text + "'", x.where(), where);
        CHECK.due("orders of '" + text + "'", x.count(0), 0);
    }

    private static void tapeOfSixHundred() {
        CHECK.sentence("THE TAPE has 600 bytes");
        good(" ".repeat(596) + "out;", 1);
        good("out;" + "\n".repeat(596), 1);
        good("push 1; ".repeat(75), 75);
        bad(" ".repeat(600), FORM, 600);
        bad(" ".repeat(597) + "out", FORM, 600);
        bad(" ".repeat(599) + "?", FORM, 599);
        bad(" ".repeat(599) + "a", UNKNOWN, 599);
        StepperHearts x = new StepperHearts();
        Check.feedText(x, " ".repeat(596) + "out;");
        CHECK.refused("program(601)", x, x.program(601), 1);
        CHECK.due("THE TAPE stays", x.count(2), 600);
        CHECK.taken("program(600)", x, x.program(600), 1);
    }

    private static void blanksPartTokens() {
        CHECK.sentence("blanks, 32, and 10s part TOKENS");
        bad("dr op;", UNKNOWN, 0);
        bad("dr\nop;", UNKNOWN, 0);
        bad("push 1 2;", FORM, 7);
        bad("push 1\n2;", FORM, 7);
        bad("jump ab cd;", FORM, 8);
        good("push 1;", 1);
        good("push\n1;", 1);
        StepperHearts x = good("ab: halt; jump\nab;", 2);
        CHECK.due("order(1, 1)", x.order(1, 1), 0);
    }

    private static void blanksMeanNothingElse() {
        CHECK.sentence("and mean nothing else");
        String[] tokens = {"a", ":", "push", "12", ";", "jump", "a", ";"};
        for (String blank : new String[] {" ", "\n", "  ", "\n\n", " \n", "\n ", " ".repeat(60)}) {
            String text = blank;
            for (String token : tokens) {
                text += token + blank;
            }
            StepperHearts x = good(text, 2);
            CHECK.due("order(0, 1)", x.order(0, 1), 12);
            CHECK.due("order(0, 2)", x.order(0, 2), 1);
            CHECK.due("order(1, 1)", x.order(1, 1), 0);
        }
        good("a:push12;jump a;", 2);
        good("a:push\n12;jump\na;", 2);
    }

    private static boolean isSmall(int sign) {
        return sign >= 'a' && sign <= 'z';
    }

    private static boolean isDigit(int sign) {
        return sign >= '0' && sign <= '9';
    }

    private static void noOtherSignIsBlank() {
        CHECK.sentence("blanks, 32, and 10s part TOKENS and mean nothing else; TOKENS: WORDS, WHOLES, single ones of : ;");
        for (int sign = 0; sign < 256; sign++) {
            String s = "" + (char) sign;
            if (sign == 32 || sign == 10) {
                good("out" + s + ";", 1);
                good(s + "out;", 1);
                good("out;" + s, 1);
            } else if (isSmall(sign)) {
                bad("out" + s + ";", UNKNOWN, 0);
                bad(s + "out;", UNKNOWN, 0);
                bad("out;" + s, UNKNOWN, 4);
            } else {
                bad("out" + s + ";", FORM, sign == ':' || sign == ';' ? 4 : 3);
                bad(s + "out;", FORM, 0);
                bad("out;" + s, FORM, 4);
                bad("halt; push" + s, FORM, sign == ':' || isDigit(sign) ? 11 : 10);
            }
        }
    }

    private static void wordsOfOneToEight() {
        CHECK.sentence("WORDS of 1 to 8 small letters");
        for (int length = 1; length <= 8; length++) {
            String word = "x".repeat(length);
            StepperHearts x = good(word + ": halt; jump " + word + ";", 2);
            CHECK.due("order(1, 1)", x.order(1, 1), 0);
            bad(word + ";", UNKNOWN, 0);
        }
        for (int length : new int[] {9, 10, 16, 17, 100}) {
            String word = "x".repeat(length);
            bad(word + ": halt;", FORM, 0);
            bad(word + ";", FORM, 0);
            bad("halt; " + word, FORM, 6);
            bad("a: " + word + ";", FORM, 3);
            bad("jump " + word + ";", FORM, 5);
            bad("push " + word + ";", FORM, 5);
            bad("halt " + word + ";", FORM, 5);
        }
        bad("xxxxxxxx: jump xxxxxxxxx;", FORM, 15);
    }

    private static void lettersThatStandTogether() {
        CHECK.sentence("small letters that stand together");
        good("drop:drop;", 1);
        good("zero zero;zero:drop;", 2);
        good("push5;", 1);
        bad("dropdrop;", UNKNOWN, 0);
        bad("jumpa; a: drop;", UNKNOWN, 0);
        bad("push 5drop;", FORM, 6);
        bad("a5: drop;", UNKNOWN, 0);
    }

    private static void smallLetters() {
        CHECK.sentence("WORDS of 1 to 8 small letters");
        good("az: halt; jump az;", 2);
        good("abcdefgh: out; ijklmnop: out; qrstuvwx: out; yz: out; jump yz;", 5);
        bad("Out;", FORM, 0);
        bad("oUt;", UNKNOWN, 0);
        bad("out; A: out;", FORM, 5);
        bad("out; Z: out;", FORM, 5);
        bad("out; `: out;", FORM, 5);
        bad("out; {: out;", FORM, 5);
        bad("jump A;", FORM, 5);
    }

    private static void wordsAreWhole() {
        CHECK.sentence("a MARK ahead of it, by which it can be jumped to");
        StepperHearts x = good("abcdefgh: out; abcdefgi: out; bbcdefgh: out; abcdefg: out; jump abcdefgh; jump abcdefgi; "
            + "jump bbcdefgh; zero abcdefg;", 8);
        for (int i = 0; i < 4; i++) {
            CHECK.due("order(" + (4 + i) + ", 1)", x.order(4 + i, 1), i);
        }
        bad("ab: jump a;", UNKNOWN, 9);
        bad("ab: jump b;", UNKNOWN, 9);
        bad("a: jump ab;", UNKNOWN, 8);
        bad("ab: jump ac;", UNKNOWN, 9);
        bad("ab: jump ba;", UNKNOWN, 9);
    }

    private static void wholesOfOneToThree() {
        CHECK.sentence("WHOLES of 1 to 3 digits");
        String[] wholes = {"0", "9", "00", "10", "99", "000", "007", "100", "999", "010"};
        for (String whole : wholes) {
            StepperHearts x = good("push " + whole + ";", 1);
            CHECK.due("order(0, 1) of " + whole, x.order(0, 1), Integer.parseInt(whole));
        }
        for (String whole : new String[] {"1000", "0000", "0001", "9999", "12345", "0".repeat(50), "4294967296"}) {
            bad("push " + whole + ";", FORM, 5);
            bad("get " + whole + ";", FORM, 4);
            bad("out " + whole + ";", FORM, 4);
            bad("out; " + whole, FORM, 5);
        }
        bad("push -1;", FORM, 5);
        bad("push +1;", FORM, 5);
        bad("push 1.5;", FORM, 6);
    }

    private static void singleSigns() {
        CHECK.sentence("single ones of : ;");
        bad("a:: out;", FORM, 2);
        bad("a: : out;", FORM, 3);
        bad("out;;", FORM, 4);
        bad("out; ;", FORM, 5);
        bad("a;: out;", UNKNOWN, 0);
        bad("out,", FORM, 3);
    }

    private static void atLeastOneItem() {
        CHECK.sentence("PROGRAM: ITEM {ITEM}");
        bad("", FORM, 0);
        bad(" ", FORM, 1);
        bad("\n", FORM, 1);
        bad(" \n \n", FORM, 4);
        good("out;", 1);
        good("out;out;", 2);
    }

    private static void itemEndsWithSemicolon() {
        CHECK.sentence("ITEM: [WORD :] ORDER ;");
        for (int kind = 0; kind < WORDS.length; kind++) {
            String order = "a: out; " + WORDS[kind] + operand(kind);
            good(order + ";", 2);
            bad(order, FORM, order.length());
            bad(order + " ", FORM, order.length() + 1);
            bad(order + " out;", FORM, order.length() + 1);
            bad(order + " a;", FORM, order.length() + 1);
            bad(order + " 1;", FORM, order.length() + 1);
            bad(order + " :", FORM, order.length() + (operand(kind).isEmpty() ? 2 : 1));
        }
    }

    private static String operand(int kind) {
        return kind == 0 || kind == 9 || kind == 10 ? " 7" : kind == 11 || kind == 12 ? " a" : "";
    }

    private static void itemHasOneMark() {
        CHECK.sentence("ITEM: [WORD :] ORDER ; (a MARK ahead of it, by which it can be jumped to)");
        StepperHearts x = good("out; a: out; jump a; b: zero b;", 4);
        int[] marks = {0, 1, 0, 1};
        int[] places = {0, 0, 1, 3};
        for (int k = 0; k < 4; k++) {
            CHECK.due("order(" + k + ", 2)", x.order(k, 2), marks[k]);
            CHECK.due("order(" + k + ", 1)", x.order(k, 1), places[k]);
        }
        bad("a: b: out;", UNKNOWN, 3);
        bad("a: out: out;", FORM, 6);
        bad("a: a: out;", UNKNOWN, 3);
        bad(": out;", FORM, 0);
        bad("a: ;", FORM, 3);
        bad("a:", FORM, 2);
        bad("5: out;", FORM, 0);
        for (String word : WORDS) {
            x = good(word + ": halt; jump " + word + ";", 2);
            CHECK.due("order(1, 1)", x.order(1, 1), 0);
        }
    }

    private static void ordersByTheirNumbers() {
        CHECK.sentence("ORDERS by their numbers");
        for (int kind = 0; kind < WORDS.length; kind++) {
            StepperHearts x = good("out; a: " + WORDS[kind] + operand(kind) + ";", 2);
            CHECK.due("order(1, 0) of " + WORDS[kind], x.order(1, 0), kind);
            CHECK.due("order(1, 1) of " + WORDS[kind], x.order(1, 1),
                operand(kind).equals(" 7") ? 7 : operand(kind).equals(" a") ? 1 : 0);
        }
    }

    private static void ordersWithWhole() {
        CHECK.sentence("0 push WHOLE, 9 get WHOLE, 10 set WHOLE (a CELL)");
        for (String word : new String[] {"push", "get", "set"}) {
            int behind = word.length() + 1;
            good(word + " 0;", 1);
            bad(word + " ;", FORM, behind);
            bad(word + " a;", FORM, behind);
            bad(word + " ", FORM, behind);
            bad(word + " ?", FORM, behind);
            bad(word + " 1", FORM, behind + 1);
            bad(word + " 1 1;", FORM, behind + 2);
            bad("a: " + word + " a;", FORM, behind + 3);
            bad("a: " + word + " 1 :", FORM, behind + 5);
        }
    }

    private static void ordersWithWord() {
        CHECK.sentence("11 jump WORD, 12 zero WORD");
        for (String word : new String[] {"jump", "zero"}) {
            good("a: " + word + " a;", 1);
            bad(word + " ;", FORM, 5);
            bad(word + " 0;", FORM, 5);
            bad(word + " ", FORM, 5);
            bad(word + " ?", FORM, 5);
            bad("a: " + word + " a", FORM, 9);
            bad("a: " + word + " a a;", FORM, 10);
            bad("a: " + word + " :", FORM, 8);
        }
    }

    private static void ordersAlone() {
        CHECK.sentence("1 drop, 2 dup, 3 swap, 4 over, 5 add, 6 sub, 7 mul, 8 less, 13 out, 14 halt");
        for (int kind = 0; kind < WORDS.length; kind++) {
            if (operand(kind).isEmpty()) {
                int behind = WORDS[kind].length() + 4;
                good("a: " + WORDS[kind] + ";", 1);
                bad("a: " + WORDS[kind] + " 1;", FORM, behind);
                bad("a: " + WORDS[kind] + " a;", FORM, behind);
                bad("a: " + WORDS[kind] + " out;", FORM, behind);
                bad("a: " + WORDS[kind] + " :", FORM, behind);
            }
        }
    }

    private static void firstFromTheLeft() {
        CHECK.sentence("FAULTS, the first that is met from the left");
        bad("get 8; nay; ?", CELL, 4);
        bad("nay; get 8; ?", UNKNOWN, 0);
        bad("out? get 8; nay;", FORM, 3);
        bad("a: out; a: nay; get 8;", TWICE, 8);
        bad("a: nay; a: out;", UNKNOWN, 3);
        bad("nay?", UNKNOWN, 0);
        bad("nay 1000", UNKNOWN, 0);
        bad("jump nay; get 8;", CELL, 14);
        bad("jump nay; out", FORM, 13);
        bad("jump nay; yea;", UNKNOWN, 10);
        bad("a: jump nay; a: out;", TWICE, 13);
        bad("jump nay; " + "out;".repeat(100), MANY, 10 + 4 * 99);
    }

    private static void leastNumberOfOnePlace() {
        CHECK.sentence("of one place the least number");
        bad("abcdefghi;", FORM, 0);
        bad("out;".repeat(100) + "abcdefghi;", FORM, 400);
        bad("out;".repeat(100) + "nay;", UNKNOWN, 400);
        bad("get 1000;", FORM, 4);
        bad("a: out; a", UNKNOWN, 8);
        bad("abcdefgh: out; abcdefghi: out;", FORM, 15);
    }

    private static void formAtByte() {
        CHECK.sentence("1 FORM: the first byte that begins no TOKEN");
        bad("?", FORM, 0);
        bad("\u0000", FORM, 0);
        bad("\u007f", FORM, 0);
        bad("\u0080", FORM, 0);
        bad("\u00ff", FORM, 0);
        bad("out?;", FORM, 3);
        bad("push?1;", FORM, 4);
        bad("push 1?;", FORM, 6);
        bad("a?: out;", UNKNOWN, 0);
        bad("a: ?", FORM, 3);
        bad("jump ?", FORM, 5);
        bad("out; ??", FORM, 5);
    }

    private static void formAtToken() {
        CHECK.sentence("1 FORM: TOKEN with which no PROGRAM goes on");
        bad(";", FORM, 0);
        bad(":", FORM, 0);
        bad("7", FORM, 0);
        bad("out 7", FORM, 4);
        bad("push out;", FORM, 5);
        bad("push ;", FORM, 5);
        bad("jump 7;", FORM, 5);
        bad("out; 7;", FORM, 5);
        bad("out; : out;", FORM, 5);
        bad("push 7:", FORM, 6);
    }

    private static void formAtTheEnd() {
        CHECK.sentence("(the end: its place)");
        bad("out", FORM, 3);
        bad("out  ", FORM, 5);
        bad("out\n", FORM, 4);
        bad("push", FORM, 4);
        bad("push 1", FORM, 6);
        bad("a: out; a: ", TWICE, 8);
        bad("b:", FORM, 2);
        bad("out; b : ", FORM, 9);
        StepperHearts x = new StepperHearts();
        Check.feedText(x, "out; halt;");
        CHECK.refused("program(8)", x, x.program(8), 3);
        CHECK.due("fault() of 'out; hal'", x.fault(), UNKNOWN);
        CHECK.due("where()", x.where(), 5);
        Check.feedText(x, "out; halt;");
        CHECK.refused("program(9)", x, x.program(9), 3);
        CHECK.due("fault() of 'out; halt'", x.fault(), FORM);
        CHECK.due("where()", x.where(), 9);
        Check.feedText(x, "out; halt;");
        CHECK.taken("program(5)", x, x.program(5), 1);
    }

    private static void wordThatIsNoOrder() {
        CHECK.sentence("2 a WORD where an ORDER is to be that is none (and no MARK); at it");
        for (String word : WORDS) {
            bad(word + "x;", UNKNOWN, 0);
            bad("x" + word + ";", UNKNOWN, 0);
            bad(word.substring(1) + ";", UNKNOWN, 0);
            bad(word.substring(0, word.length() - 1) + ";", UNKNOWN, 0);
            bad("out; m: x" + word + ";", UNKNOWN, 8);
        }
        bad("nay", UNKNOWN, 0);
        bad("out;\n nay", UNKNOWN, 6);
        bad("nay: nay;", UNKNOWN, 5);
        bad("a: out; a;", UNKNOWN, 8);
        good("nay: out;", 1);
    }

    private static void markThatIsThere() {
        CHECK.sentence("3 TWICE: a MARK that is there; at it");
        bad("a: out; a: out;", TWICE, 8);
        bad("a: out; b: out; c: out; b: out;", TWICE, 24);
        bad("abcdefgh: out; abcdefgh: out;", TWICE, 15);
        bad("out: out; out: out;", TWICE, 10);
        bad("a: jump a; a: jump a;", TWICE, 11);
        good("a: out; aa: out; b: out; ab: out; ba: out;", 5);
        good("jump a; jump a; a: out;", 3);
        bad("a: " + "out;".repeat(98) + "b: out; b: out;", TWICE, 403);
        bad("a: " + "out;".repeat(98) + "b: out; a: out;", TWICE, 403);
    }

    private static void twiceWhenColonIsRead() {
        CHECK.sentence("(when the : is read)");
        bad("a: out; a", UNKNOWN, 8);
        bad("a: out; a ;", UNKNOWN, 8);
        bad("a: out; a 7", UNKNOWN, 8);
        bad("a: out; a?", UNKNOWN, 8);
        bad("a: out; a:", TWICE, 8);
        bad("a: out; a :?", TWICE, 8);
        bad("a: out; a\n\n:;", TWICE, 8);
        good("out: out; out;", 2);
        bad("out: out; out?", FORM, 13);
        bad("out: out; out:?", TWICE, 10);
    }

    private static void cellBeyondSeven() {
        CHECK.sentence("4 a CELL beyond 7; at it");
        for (String word : new String[] {"get", "set"}) {
            for (int k = 0; k <= 7; k++) {
                StepperHearts x = good(word + " " + k + ";", 1);
                CHECK.due("order(0, 1)", x.order(0, 1), k);
            }
            good(word + " 007;", 1);
            for (String cell : new String[] {"8", "9", "10", "08", "008", "16", "99", "256", "999"}) {
                bad(word + " " + cell + ";", CELL, 4);
                bad("out;" + word + "\n" + cell, CELL, 8);
                bad(word + " " + cell + "?", CELL, 4);
            }
        }
        good("push 8;", 1);
        good("push 999;", 1);
    }

    private static void manyOrders() {
        CHECK.sentence("5 MANY: a 101st ORDER; at its WORD");
        good("out;".repeat(99), 99);
        good("out;".repeat(100), 100);
        good("out;".repeat(100) + " \n", 100);
        good("out;".repeat(99) + "m: out;", 100);
        bad("out;".repeat(101), MANY, 400);
        bad("out;".repeat(102), MANY, 400);
        bad("out;".repeat(150), MANY, 400);
        bad("out;".repeat(100) + "m: out;", MANY, 403);
        bad("out;".repeat(100) + "\n\nhalt;", MANY, 402);
        bad("m: " + "out;".repeat(100) + "jump m;", MANY, 403);
    }

    private static void manyWhenWordIsRead() {
        CHECK.sentence("(when it is read, 2 first)");
        String hundred = "out;".repeat(100);
        for (int kind = 0; kind < WORDS.length; kind++) {
            bad(hundred + WORDS[kind], MANY, 400);
            bad(hundred + WORDS[kind] + "?", MANY, 400);
            bad(hundred + WORDS[kind] + " 1000;", MANY, 400);
        }
        bad(hundred + "get 8;", MANY, 400);
        bad(hundred + "jump nay;", MANY, 400);
        bad(hundred + ";", FORM, 400);
        bad(hundred + "7", FORM, 400);
        bad(hundred + "?", FORM, 400);
        bad(hundred + "m:", FORM, 402);
        bad("m: " + hundred + "m: out;", TWICE, 403);
        bad(hundred + "m: out; m: out;", MANY, 403);
    }

    private static void unknownIsAheadOfMany() {
        CHECK.sentence("(when it is read, 2 first)");
        String hundred = "out;".repeat(100);
        bad(hundred + "nay;", UNKNOWN, 400);
        bad(hundred + "nay", UNKNOWN, 400);
        bad(hundred + "m: nay;", UNKNOWN, 403);
        bad(hundred + "halt;nay;", MANY, 400);
    }

    private static void goalsBehindTheWholeText() {
        CHECK.sentence("Behind a whole text without these the first WORD of a jump, zero, from the left, that is no MARK: 2");
        bad("jump nay;", UNKNOWN, 5);
        bad("zero nay;", UNKNOWN, 5);
        bad("a: jump a; zero nay; jump nix;", UNKNOWN, 16);
        bad("jump nay; a: zero a;", UNKNOWN, 5);
        bad("zero nix; jump nay;", UNKNOWN, 5);
        bad("jump out; out;", UNKNOWN, 5);
        bad("jump jump;", UNKNOWN, 5);
        bad("jump\n\n nay ;", UNKNOWN, 7);
        bad("out;".repeat(99) + "jump nay;", UNKNOWN, 401);
        good("jump nay; nay: out;", 2);
        String[] rests = {";", ":", "7", "?", "a:", "a: ;", "a: 7", "out", "out 7", "push;", "push", "jump", "jump 7;", "jump;",
            "zero :", "zero nix"};
        int[] places = {0, 0, 0, 0, 2, 3, 3, 3, 4, 4, 4, 4, 5, 4, 6, 8};
        for (int i = 0; i < rests.length; i++) {
            bad("jump nay; " + rests[i], FORM, 10 + places[i]);
        }
        bad("jump nay; nix;", UNKNOWN, 10);
        bad("jump nay; a: nix;", UNKNOWN, 13);
        bad("jump nay; set 8", CELL, 14);
        bad("jump nay; a: out; a: out;", TWICE, 18);
        StepperHearts x = good("jump e;" + "out;".repeat(98) + "e: jump e;", 100);
        CHECK.due("order(0, 1)", x.order(0, 1), 99);
        CHECK.due("order(99, 1)", x.order(99, 1), 99);
    }
}
