import java.util.Arrays;
import java.util.NoSuchElementException;

/** Small programs told in a text, run and priced by five hearts that agree on all but the cost. */
public final class StepperHearts {
    public static final int NONE = -1;

    private static final int TAPE_ROOM = 600;
    private static final int BYTES_A_FEED = 20;
    private static final int MOST_ORDERS = 100;
    private static final int MOST_FUEL = 5000;
    private static final int MOST_JOINS = 10;
    private static final int PILE_ROOM = 32;
    private static final int CELLS = 8;
    private static final int OUTS_KEPT = 60;
    private static final int KIND_COUNT = 15;
    private static final int PAIR_COUNT = KIND_COUNT * KIND_COUNT;

    private static final int END_HALT = 0;
    private static final int END_FUEL = 1;
    private static final int END_UNDER = 2;
    private static final int END_FULL = 3;
    private static final int END_OFF = 4;

    private static final int HEART_COUNT = 5;
    private static final int HEART_SWITCH = 0;
    private static final int HEART_JOINED = 2;
    private static final int HEART_KEPT = 3;
    private static final int HEART_TRACES = 4;
    private static final int SWITCH_PRICE = 6;
    private static final int ROUTINE_PRICE = 4;

    private static final int NOT_REFUSED = 0;
    private static final int BY_NUMBER = 1;
    private static final int BY_ROOM = 2;
    private static final int BY_FAULT = 3;
    private static final int BY_NO_PROGRAM = 4;
    private static final int BY_NO_RUN = 5;

    private static final int TAKES_NOTHING = 0;
    private static final int TAKES_WHOLE = 1;
    private static final int TAKES_CELL = 2;
    private static final int TAKES_MARK = 3;

    private static final Kind[] KINDS = Kind.values();

    private final int[] tape = new int[TAPE_ROOM];
    private final Reader reader = new Reader();
    private final Joins joins = new Joins();
    private final Heart switchHeart = new PlainHeart(SWITCH_PRICE);
    private final Heart routineHeart = new PlainHeart(ROUTINE_PRICE);
    private final JoinedHeart joinedHeart = new JoinedHeart(joins);
    private final Heart keptHeart = new KeptHeart();
    private final Heart traceHeart = new TraceHeart();
    private final Machine latest = new Machine();
    private final Machine trial = new Machine();
    private Program current = new Program();
    private Program spare = new Program();
    private int tapeLength = 0;
    private int latestFault = 0;
    private int inputNumber = 0;
    private int bestPair = NONE;
    private int latestTrouble = NOT_REFUSED;

    public StepperHearts() {
        // a new object is what its fields begin with
    }

    public int feed(int a, int b, int c, int d, int e) {
        if (tapeLength + BYTES_A_FEED > TAPE_ROOM) {
            return NONE;
        }
        append(a);
        append(b);
        append(c);
        append(d);
        append(e);
        return tapeLength;
    }

    public int program(int n) {
        if (n < 0 || n > tapeLength) {
            return refuse(BY_NUMBER);
        }
        tapeLength = 0;
        latestFault = reader.read(tape, n, spare);
        if (latestFault != 0) {
            return refuse(BY_FAULT);
        }
        Program former = current;
        current = spare;
        spare = former;
        return accept(current.size);
    }

    public int fault() {
        return latestFault;
    }

    public int where() {
        return latestTrouble == BY_FAULT ? reader.faultPlace : NONE;
    }

    public int order(int k, int what) {
        if (k < 0 || k >= current.size) {
            return NONE;
        }
        switch (what) {
            case 0:
                return current.kindAt(k).number;
            case 1:
                return current.operandAt(k);
            case 2:
                return current.isMarked(k) ? 1 : 0;
            default:
                return NONE;
        }
    }

    public void input(int v) {
        inputNumber = v;
    }

    public int join(int first, int second) {
        if (!isKind(first) || !isKind(second)) {
            return refuse(BY_NUMBER);
        }
        int pair = pairOf(first, second);
        if (joins.size >= MOST_JOINS || joins.has(pair)) {
            return refuse(BY_ROOM);
        }
        joins.add(pair);
        return accept(joins.size);
    }

    public int part() {
        int were = joins.size;
        joins.clear();
        return were;
    }

    public int joined() {
        if (current.size == 0) {
            return refuse(BY_NO_PROGRAM);
        }
        return accept(joinedHeart.pairUp(current, NONE));
    }

    public int run(int heart, int fuel) {
        int refusal = refusalOf(heart, fuel);
        if (refusal != NOT_REFUSED) {
            return refuse(refusal);
        }
        latest.go(current, heartNumbered(heart), fuel, inputNumber);
        return accept(latest.ending);
    }

    public int told(int what) {
        if (!latest.hasRun) {
            return refuse(BY_NO_RUN);
        }
        switch (what) {
            case 0:
                return accept(latest.steps);
            case 1:
                return accept(latest.spent);
            case 2:
                return accept(latest.height);
            case 3:
                return accept(latest.outCount);
            case 4:
                return accept(latest.place);
            case 5:
                return accept(latest.highest);
            default:
                return refuse(BY_NUMBER);
        }
    }

    public int out(int i) throws NoSuchElementException {
        if (i < 0 || i >= latest.outCount || i >= OUTS_KEPT) {
            throw new NoSuchElementException("no such out");
        }
        return latest.outs[i];
    }

    public int pile(int i) throws NoSuchElementException {
        if (i < 0 || i >= latest.height || i >= PILE_ROOM) {
            throw new NoSuchElementException("no such number on the pile");
        }
        return latest.numbers[i];
    }

    public int cell(int k) {
        return latest.cellAt(k);
    }

    public int did(int kind) {
        if (!latest.hasRun || !isKind(kind)) {
            return NONE;
        }
        return latest.done[kind];
    }

    public int follows(int first, int second) {
        if (!latest.hasRun || !isKind(first) || !isKind(second)) {
            return NONE;
        }
        return latest.followed[pairOf(first, second)];
    }

    public int most() {
        if (!latest.hasRun) {
            return refuse(BY_NO_RUN);
        }
        int pair = latest.mostFollowed();
        return accept(pair == NONE ? -2 : tellPair(pair));
    }

    public int traces() {
        if (!latest.hasRun) {
            return refuse(BY_NO_RUN);
        }
        return accept(latest.traceCount);
    }

    public int trace(int place) {
        if (!latest.hasRun || place < 0 || place >= latest.places || place >= MOST_ORDERS) {
            return NONE;
        }
        return latest.traceLengths[place];
    }

    public int cost(int heart, int fuel) {
        int refusal = refusalOf(heart, fuel);
        if (refusal != NOT_REFUSED) {
            return refuse(refusal);
        }
        return accept(tryOut(heart, fuel));
    }

    public int cheapest(int fuel) {
        int refusal = refusalOf(HEART_SWITCH, fuel);
        if (refusal != NOT_REFUSED) {
            return refuse(refusal);
        }
        int best = HEART_SWITCH;
        int least = tryOut(HEART_SWITCH, fuel);
        for (int heart = HEART_SWITCH + 1; heart < HEART_COUNT; heart++) {
            int price = tryOut(heart, fuel);
            if (price < least) {
                least = price;
                best = heart;
            }
        }
        return accept(best);
    }

    public int gain(int fuel) {
        int refusal = refusalOf(HEART_JOINED, fuel);
        if (refusal != NOT_REFUSED) {
            return refuse(refusal);
        }
        tryOut(HEART_JOINED, fuel);
        int saved = joinedHeart.savedWith(current, NONE);
        int most = 0;
        for (int pair = 0; pair < PAIR_COUNT; pair++) {
            if (!joins.has(pair)) {
                int more = joinedHeart.savedWith(current, pair) - saved;
                if (more > most) {
                    most = more;
                    bestPair = pair;
                }
            }
        }
        return accept(most);
    }

    public int better() {
        return bestPair == NONE ? NONE : tellPair(bestPair);
    }

    public int count(int what) {
        switch (what) {
            case 0:
                return current.size;
            case 1:
                return joins.size;
            case 2:
                return tapeLength;
            default:
                return NONE;
        }
    }

    public int trouble() {
        return latestTrouble;
    }

    private void append(int number) {
        for (int shift = 24; shift >= 0 && tapeLength < TAPE_ROOM; shift -= 8) {
            tape[tapeLength] = (number >>> shift) & 255;
            tapeLength++;
        }
    }

    private int refuse(int by) {
        latestTrouble = by;
        return NONE;
    }

    private int accept(int answer) {
        latestTrouble = NOT_REFUSED;
        return answer;
    }

    private int refusalOf(int heart, int fuel) {
        if (current.size == 0) {
            return BY_NO_PROGRAM;
        }
        if (heart < 0 || heart >= HEART_COUNT || fuel < 1 || fuel > MOST_FUEL) {
            return BY_NUMBER;
        }
        return NOT_REFUSED;
    }

    private int tryOut(int heart, int fuel) {
        trial.go(current, heartNumbered(heart), fuel, inputNumber);
        return trial.spent;
    }

    private Heart heartNumbered(int heart) {
        switch (heart) {
            case HEART_SWITCH:
                return switchHeart;
            case HEART_JOINED:
                return joinedHeart;
            case HEART_KEPT:
                return keptHeart;
            case HEART_TRACES:
                return traceHeart;
            default:
                return routineHeart;
        }
    }

    private static boolean isKind(int number) {
        return number >= 0 && number < KIND_COUNT;
    }

    private static int pairOf(int first, int second) {
        return first * KIND_COUNT + second;
    }

    private static int tellPair(int pair) {
        return pair / KIND_COUNT * 100 + pair % KIND_COUNT;
    }

    /** The kinds of orders, by their numbers. */
    private enum Kind {
        PUSH(0, "push", 0, 1, 1, TAKES_WHOLE),
        DROP(1, "drop", 1, 0, 1, TAKES_NOTHING),
        DUP(2, "dup", 1, 2, 1, TAKES_NOTHING),
        SWAP(3, "swap", 2, 2, 1, TAKES_NOTHING),
        OVER(4, "over", 2, 3, 1, TAKES_NOTHING),
        ADD(5, "add", 2, 1, 1, TAKES_NOTHING),
        SUB(6, "sub", 2, 1, 1, TAKES_NOTHING),
        MUL(7, "mul", 2, 1, 3, TAKES_NOTHING),
        LESS(8, "less", 2, 1, 1, TAKES_NOTHING),
        GET(9, "get", 0, 1, 1, TAKES_CELL),
        SET(10, "set", 1, 0, 1, TAKES_CELL),
        JUMP(11, "jump", 0, 0, 1, TAKES_MARK),
        ZERO(12, "zero", 1, 0, 1, TAKES_MARK),
        OUT(13, "out", 1, 0, 1, TAKES_NOTHING),
        HALT(14, "halt", 0, 0, 1, TAKES_NOTHING);

        final int number;
        final String word;
        final int takes;
        final int puts;
        final int work;
        final int operandKind;

        Kind(int number, String word, int takes, int puts, int work, int operandKind) {
            this.number = number;
            this.word = word;
            this.takes = takes;
            this.puts = puts;
            this.work = work;
            this.operandKind = operandKind;
        }

        /** What every heart asks for the order itself, whatever it asks for getting there. */
        int ownPrice() {
            return work + takes + puts;
        }
    }

    /** The orders that a text told. */
    private static final class Program {
        private final int[] kinds = new int[MOST_ORDERS];
        private final int[] operands = new int[MOST_ORDERS];
        private final boolean[] marks = new boolean[MOST_ORDERS];
        private int size = 0;

        void clear() {
            size = 0;
        }

        void add(int kind, int operand, boolean marked) {
            if (size < MOST_ORDERS) {
                kinds[size] = kind;
                operands[size] = operand;
                marks[size] = marked;
                size++;
            }
        }

        boolean has(int place) {
            return place >= 0 && place < size && place < MOST_ORDERS;
        }

        Kind kindAt(int place) {
            int number = has(place) ? kinds[place] : NONE;
            return number >= 0 && number < KINDS.length ? KINDS[number] : Kind.HALT;
        }

        int operandAt(int place) {
            return has(place) ? operands[place] : 0;
        }

        void setOperand(int place, int operand) {
            if (has(place)) {
                operands[place] = operand;
            }
        }

        boolean isMarked(int place) {
            return has(place) && marks[place];
        }
    }

    /** Reads a text into a program, up to the first fault. */
    private static final class Reader {
        private static final int FORM = 1;
        private static final int UNKNOWN = 2;
        private static final int TWICE = 3;
        private static final int NO_CELL = 4;
        private static final int MANY = 5;

        private static final int BAD = 0;
        private static final int WORD = 1;
        private static final int WHOLE = 2;
        private static final int COLON = 3;
        private static final int SEMICOLON = 4;
        private static final int END = 5;

        private static final int LONGEST_WORD = 8;
        private static final int LONGEST_WHOLE = 3;

        private final int[] bytes = new int[TAPE_ROOM];
        private final int[] markStarts = new int[MOST_ORDERS];
        private final int[] markEnds = new int[MOST_ORDERS];
        private final int[] goalStarts = new int[MOST_ORDERS];
        private final int[] goalEnds = new int[MOST_ORDERS];
        private int length = 0;
        private int token = END;
        private int tokenStart = 0;
        private int tokenEnd = 0;
        private int wordStart = 0;
        private int wordEnd = 0;
        private int faultNumber = 0;
        private int faultPlace = NONE;

        /** The fault's number, or 0 and the program holds what the text told. */
        int read(int[] text, int textLength, Program into) {
            length = Math.max(0, Math.min(textLength, Math.min(text.length, TAPE_ROOM)));
            System.arraycopy(text, 0, bytes, 0, length);
            faultNumber = 0;
            faultPlace = NONE;
            tokenEnd = 0;
            into.clear();
            advance();
            boolean isWell = readItem(into);
            // the item behind the last that fits is read as well: it always ends in a fault
            for (int items = 1; items <= MOST_ORDERS && isWell && token != END; items++) {
                isWell = readItem(into);
            }
            if (isWell) {
                resolveGoals(into);
            }
            return faultNumber;
        }

        private boolean fail(int number, int place) {
            faultNumber = number;
            faultPlace = place;
            return false;
        }

        private boolean readItem(Program into) {
            if (!readWord()) {
                return false;
            }
            boolean marked = token == COLON;
            if (marked) {
                if (placeOfMark(wordStart, wordEnd, into.size) != NONE) {
                    return fail(TWICE, wordStart);
                }
                keepMark(into.size, wordStart, wordEnd);
                advance();
                if (!readWord()) {
                    return false;
                }
            } else {
                keepMark(into.size, 0, 0);
            }
            return readOrder(into, marked);
        }

        /** Goes behind a word, which stays told by wordStart and wordEnd. */
        private boolean readWord() {
            if (token != WORD) {
                return fail(FORM, tokenStart);
            }
            wordStart = tokenStart;
            wordEnd = tokenEnd;
            advance();
            return true;
        }

        private boolean readOrder(Program into, boolean marked) {
            int kind = kindOfWord();
            if (kind == NONE) {
                return fail(UNKNOWN, wordStart);
            }
            if (into.size >= MOST_ORDERS) {
                return fail(MANY, wordStart);
            }
            int operand = 0;
            int operandKind = KINDS[kind].operandKind;
            if (operandKind == TAKES_MARK) {
                if (!readWord()) {
                    return false;
                }
                keepGoal(into.size);
            } else if (operandKind != TAKES_NOTHING) {
                if (token != WHOLE) {
                    return fail(FORM, tokenStart);
                }
                operand = tokenNumber();
                if (operandKind == TAKES_CELL && operand >= CELLS) {
                    return fail(NO_CELL, tokenStart);
                }
                advance();
            }
            if (token != SEMICOLON) {
                return fail(FORM, tokenStart);
            }
            advance();
            into.add(kind, operand, marked);
            return true;
        }

        private void resolveGoals(Program into) {
            for (int place = 0; place < into.size && place < MOST_ORDERS; place++) {
                if (into.kindAt(place).operandKind == TAKES_MARK) {
                    int goal = placeOfMark(goalStarts[place], goalEnds[place], into.size);
                    if (goal == NONE) {
                        fail(UNKNOWN, goalStarts[place]);
                        return;
                    }
                    into.setOperand(place, goal);
                }
            }
        }

        /** A mark of no letters is like no word: it stands where there is none. */
        private void keepMark(int place, int start, int end) {
            if (place >= 0 && place < MOST_ORDERS) {
                markStarts[place] = start;
                markEnds[place] = end;
            }
        }

        private void keepGoal(int place) {
            if (place >= 0 && place < MOST_ORDERS) {
                goalStarts[place] = wordStart;
                goalEnds[place] = wordEnd;
            }
        }

        private int placeOfMark(int start, int end, int places) {
            for (int place = 0; place < places && place < MOST_ORDERS; place++) {
                if (sameWords(start, end, markStarts[place], markEnds[place])) {
                    return place;
                }
            }
            return NONE;
        }

        private boolean sameWords(int start, int end, int otherStart, int otherEnd) {
            if (end - start != otherEnd - otherStart) {
                return false;
            }
            for (int i = 0; i < end - start; i++) {
                if (byteAt(start + i) != byteAt(otherStart + i)) {
                    return false;
                }
            }
            return true;
        }

        private int kindOfWord() {
            for (int kind = 0; kind < KINDS.length; kind++) {
                if (wordIs(KINDS[kind].word)) {
                    return kind;
                }
            }
            return NONE;
        }

        private boolean wordIs(String name) {
            if (name.length() != wordEnd - wordStart) {
                return false;
            }
            for (int i = 0; i < name.length(); i++) {
                if (byteAt(wordStart + i) != name.charAt(i)) {
                    return false;
                }
            }
            return true;
        }

        private int tokenNumber() {
            int number = 0;
            for (int i = tokenStart; i < tokenEnd; i++) {
                number = number * 10 + byteAt(i) - '0';
            }
            return number;
        }

        private int byteAt(int place) {
            return place >= 0 && place < length && place < TAPE_ROOM ? bytes[place] : NONE;
        }

        /** Goes on to the next token. */
        private void advance() {
            int start = tokenEnd;
            while (start < length && isBlank(byteAt(start))) {
                start++;
            }
            tokenStart = start;
            tokenEnd = start + 1;
            int first = byteAt(start);
            if (start >= length) {
                token = END;
                tokenEnd = start;
            } else if (isLetter(first)) {
                while (tokenEnd < length && isLetter(byteAt(tokenEnd))) {
                    tokenEnd++;
                }
                token = tokenEnd - tokenStart <= LONGEST_WORD ? WORD : BAD;
            } else if (isDigit(first)) {
                while (tokenEnd < length && isDigit(byteAt(tokenEnd))) {
                    tokenEnd++;
                }
                token = tokenEnd - tokenStart <= LONGEST_WHOLE ? WHOLE : BAD;
            } else if (first == ':') {
                token = COLON;
            } else {
                token = first == ';' ? SEMICOLON : BAD;
            }
        }

        private static boolean isBlank(int sign) {
            return sign == 32 || sign == 10;
        }

        private static boolean isLetter(int sign) {
            return sign >= 'a' && sign <= 'z';
        }

        private static boolean isDigit(int sign) {
            return sign >= '0' && sign <= '9';
        }
    }

    /** The joins that are told. */
    private static final class Joins {
        private final boolean[] pairs = new boolean[PAIR_COUNT];
        private int size = 0;

        boolean has(int pair) {
            return pair >= 0 && pair < PAIR_COUNT && pairs[pair];
        }

        void add(int pair) {
            if (pair >= 0 && pair < PAIR_COUNT && !pairs[pair]) {
                pairs[pair] = true;
                size++;
            }
        }

        void clear() {
            for (int pair = 0; pair < PAIR_COUNT; pair++) {
                pairs[pair] = false;
            }
            size = 0;
        }
    }

    /** Does a program's steps and keeps what a run left behind. */
    private static final class Machine {
        private final int[] numbers = new int[PILE_ROOM];
        private final int[] cells = new int[CELLS];
        private final int[] outs = new int[OUTS_KEPT];
        private final int[] done = new int[KIND_COUNT];
        private final int[] followed = new int[PAIR_COUNT];
        private final int[] traceLengths = new int[MOST_ORDERS];
        private boolean hasRun = false;
        private int places = 0;
        private int ending = NONE;
        private int steps = 0;
        private int spent = 0;
        private int height = 0;
        private int highest = 0;
        private int outCount = 0;
        private int place = 0;
        private int formerKind = NONE;
        private int traceCount = 0;

        void go(Program program, Heart heart, int fuel, int input) {
            clear();
            hasRun = true;
            places = program.size;
            put(input);
            highest = height;
            heart.begin(program);
            // one round more than the fuel: the last one only asks how it ends
            for (int round = 0; round <= fuel && ending == NONE; round++) {
                ending = endAhead(program, fuel);
                if (ending == NONE) {
                    step(program, heart);
                }
            }
            keepTraces(heart);
        }

        int cellAt(int k) {
            return k >= 0 && k < CELLS ? cells[k] : 0;
        }

        /** The pair of kinds that followed most often, or NONE. */
        int mostFollowed() {
            int best = NONE;
            int often = 0;
            for (int pair = 0; pair < PAIR_COUNT; pair++) {
                if (followed[pair] > often) {
                    often = followed[pair];
                    best = pair;
                }
            }
            return best;
        }

        private void clear() {
            Arrays.fill(cells, 0);
            Arrays.fill(done, 0);
            Arrays.fill(followed, 0);
            ending = NONE;
            steps = 0;
            spent = 0;
            height = 0;
            outCount = 0;
            place = 0;
            formerKind = NONE;
        }

        /** How the run ends before the next step, or NONE if that can be done. */
        private int endAhead(Program program, int fuel) {
            if (!program.has(place)) {
                return END_OFF;
            }
            if (steps >= fuel) {
                return END_FUEL;
            }
            Kind kind = program.kindAt(place);
            if (height < kind.takes) {
                return END_UNDER;
            }
            if (height - kind.takes + kind.puts > PILE_ROOM) {
                return END_FULL;
            }
            return NONE;
        }

        private void step(Program program, Heart heart) {
            Kind kind = program.kindAt(place);
            int landing = perform(kind, program.operandAt(place));
            spent += heart.price(place, kind, landing) + kind.ownPrice();
            steps++;
            highest = Math.max(highest, height);
            tally(kind.number);
            if (kind == Kind.HALT) {
                ending = END_HALT;
            } else {
                place = landing == NONE ? place + 1 : landing;
            }
        }

        private void tally(int kind) {
            if (!isKind(kind)) {
                return;
            }
            done[kind]++;
            if (isKind(formerKind)) {
                followed[pairOf(formerKind, kind)]++;
            }
            formerKind = kind;
        }

        /** The place to which the order jumps, or NONE. */
        private int perform(Kind kind, int operand) {
            switch (kind) {
                case PUSH:
                    put(operand);
                    return NONE;
                case GET:
                    put(cellAt(operand));
                    return NONE;
                case SET:
                    setCell(operand, take());
                    return NONE;
                case OUT:
                    tellOut(take());
                    return NONE;
                case JUMP:
                    return operand;
                case ZERO:
                    return take() == 0 ? operand : NONE;
                case HALT:
                    return NONE;
                default:
                    rearrange(kind);
                    return NONE;
            }
        }

        /** The orders that work on the pile alone. */
        private void rearrange(Kind kind) {
            int top = take();
            int second = kind.takes > 1 ? take() : 0;
            switch (kind) {
                case DUP:
                    put(top);
                    put(top);
                    break;
                case SWAP:
                    put(top);
                    put(second);
                    break;
                case OVER:
                    put(second);
                    put(top);
                    put(second);
                    break;
                case ADD:
                    put(second + top);
                    break;
                case SUB:
                    put(second - top);
                    break;
                case MUL:
                    put(second * top);
                    break;
                case LESS:
                    put(second < top ? 1 : 0);
                    break;
                default:
                    break;
            }
        }

        private void put(int number) {
            if (height >= 0 && height < PILE_ROOM) {
                numbers[height] = number;
                height++;
            }
        }

        private int take() {
            if (height <= 0 || height > PILE_ROOM) {
                return 0;
            }
            height--;
            return numbers[height];
        }

        private void setCell(int k, int number) {
            if (k >= 0 && k < CELLS) {
                cells[k] = number;
            }
        }

        private void tellOut(int number) {
            if (outCount >= 0 && outCount < OUTS_KEPT) {
                outs[outCount] = number;
            }
            outCount++;
        }

        private void keepTraces(Heart heart) {
            traceCount = 0;
            for (int at = 0; at < MOST_ORDERS; at++) {
                traceLengths[at] = heart.traceLength(at);
                if (traceLengths[at] > 0) {
                    traceCount++;
                }
            }
        }
    }

    /** What a way of running asks for a step beside the order's own price. */
    private abstract static class Heart {
        abstract void begin(Program program);

        /** Of the step that is being done; landing is the place to which it jumps, or NONE. */
        abstract int price(int place, Kind kind, int landing);

        int traceLength(int place) {
            return 0;
        }
    }

    /** The same for each step: the switch, and the rows of routines. */
    private static final class PlainHeart extends Heart {
        private final int priceOfStep;

        PlainHeart(int priceOfStep) {
            this.priceOfStep = priceOfStep;
        }

        void begin(Program program) {
            // nothing is carried from step to step
        }

        int price(int place, Kind kind, int landing) {
            return priceOfStep;
        }
    }

    /** Joined places: the second step of two costs no way of its own. */
    private static final class JoinedHeart extends Heart {
        private final Joins joins;
        private final boolean[] isSecond = new boolean[MOST_ORDERS];
        private final int[] cameOver = new int[MOST_ORDERS];
        private int formerPlace = NONE;

        JoinedHeart(Joins joins) {
            this.joins = joins;
        }

        void begin(Program program) {
            pairUp(program, NONE);
            Arrays.fill(cameOver, 0);
            formerPlace = NONE;
        }

        int price(int place, Kind kind, int landing) {
            boolean cameFromNeighbour = formerPlace != NONE && formerPlace == place - 1;
            formerPlace = place;
            if (!cameFromNeighbour || place < 0 || place >= MOST_ORDERS) {
                return ROUTINE_PRICE;
            }
            cameOver[place]++;
            return isSecond[place] ? 0 : ROUTINE_PRICE;
        }

        /** Joins the places, by one pair of kinds more if extra is one; how many pairs of places there are. */
        int pairUp(Program program, int extra) {
            int pairs = 0;
            isSecond[0] = false;
            for (int place = 1; place < MOST_ORDERS; place++) {
                isSecond[place] = !isSecond[place - 1] && canJoin(program, place, extra);
                if (isSecond[place]) {
                    pairs++;
                }
            }
            return pairs;
        }

        /** What the run that was priced last saves by its joins and an extra one. */
        int savedWith(Program program, int extra) {
            pairUp(program, extra);
            int times = 0;
            for (int place = 0; place < MOST_ORDERS; place++) {
                if (isSecond[place]) {
                    times += cameOver[place];
                }
            }
            return times * ROUTINE_PRICE;
        }

        private boolean canJoin(Program program, int second, int extra) {
            if (!program.has(second - 1) || !program.has(second) || program.isMarked(second)) {
                return false;
            }
            int pair = pairOf(program.kindAt(second - 1).number, program.kindAt(second).number);
            return pair == extra || joins.has(pair);
        }
    }

    /** The top of the pile is kept at hand. */
    private static final class KeptHeart extends Heart {
        private boolean isKept = false;

        void begin(Program program) {
            isKept = false;
        }

        int price(int place, Kind kind, int landing) {
            int price = ROUTINE_PRICE;
            if (isKept && kind.takes > 0) {
                price--;
            }
            if (isKept && kind.takes == 0 && kind.puts > 0) {
                price++;
            }
            if (kind.puts > 0) {
                price--;
            }
            if (kind.puts > 0) {
                isKept = true;
            } else if (kind.takes > 0) {
                isKept = false;
            }
            return price;
        }
    }

    /** Rows of places that went round are written down, and cost less when gone through again. */
    private static final class TraceHeart extends Heart {
        private static final int ROUNDS_TO_WRITE = 8;
        private static final int LONGEST_ROW = 40;
        private static final int PRICE_OF_LEAVING = 10;

        private final int[] rows = new int[MOST_ORDERS * LONGEST_ROW];
        private final int[] lengths = new int[MOST_ORDERS];
        private final int[] rounds = new int[MOST_ORDERS];
        private final boolean[] wasBegun = new boolean[MOST_ORDERS];
        private int writing = NONE;
        private int written = 0;
        private int inside = NONE;
        private int nextInside = 0;

        void begin(Program program) {
            Arrays.fill(lengths, 0);
            Arrays.fill(rounds, 0);
            for (int place = 0; place < MOST_ORDERS; place++) {
                wasBegun[place] = false;
            }
            writing = NONE;
            written = 0;
            inside = NONE;
            nextInside = 0;
        }

        int price(int place, Kind kind, int landing) {
            if (!isPlace(place)) {
                return ROUTINE_PRICE;
            }
            write(place);
            int price = priceOfGoing(place, kind == Kind.ZERO ? 1 : 0);
            if (isPlace(landing) && landing <= place) {
                countRound(landing);
            }
            return price;
        }

        int traceLength(int place) {
            return isPlace(place) ? lengths[place] : 0;
        }

        private static boolean isPlace(int place) {
            return place >= 0 && place < MOST_ORDERS;
        }

        /** Ends the row that is being written, if this step does, or adds the step to it. */
        private void write(int place) {
            if (!isPlace(writing)) {
                return;
            }
            if (written > 0 && place == writing) {
                lengths[writing] = written;
                writing = NONE;
            } else if (written >= LONGEST_ROW) {
                writing = NONE;
            } else {
                rows[writing * LONGEST_ROW + written] = place;
                written++;
            }
        }

        private int priceOfGoing(int place, int priceWithin) {
            int leaving = 0;
            if (isPlace(inside)) {
                if (placeWithin() == place) {
                    goRound();
                    return priceWithin;
                }
                leaving = PRICE_OF_LEAVING;
            }
            if (lengths[place] == 0) {
                inside = NONE;
                return leaving + ROUTINE_PRICE;
            }
            inside = place;
            nextInside = 0;
            goRound();
            return leaving + priceWithin;
        }

        private int placeWithin() {
            boolean isInRow = isPlace(inside) && nextInside >= 0 && nextInside < LONGEST_ROW;
            return isInRow ? rows[inside * LONGEST_ROW + nextInside] : NONE;
        }

        private void goRound() {
            nextInside++;
            if (!isPlace(inside) || nextInside >= lengths[inside]) {
                nextInside = 0;
            }
        }

        private void countRound(int place) {
            rounds[place]++;
            if (rounds[place] >= ROUNDS_TO_WRITE && writing == NONE && !wasBegun[place]) {
                wasBegun[place] = true;
                writing = place;
                written = 0;
            }
        }
    }
}
