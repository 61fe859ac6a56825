/**
 * The office of a trial of three days for horses.
 *
 * Reports and strikes are only written down; what is told of the riders is made from them, as known
 * at one act, when somebody asks.
 */
public final class ThreeDays {
    public static final int NONE = -1;

    private static final int NO_COUNT = -2000000;
    private static final long NO_SUM = -2000000000000L;
    private static final int LAST_SECOND = 86399;

    private final Tape tape;
    private final Riders riders;
    private final Course course;
    private final Log log;
    private final Reader reader;
    private final Board board;
    private Rules inForce;
    private Rules spare;
    private int askedAct;

    public ThreeDays() {
        tape = new Tape();
        riders = new Riders();
        course = new Course();
        log = new Log();
        reader = new Reader(tape);
        inForce = new Rules();
        spare = new Rules();
        board = new Board(riders, course, log, inForce);
        askedAct = NONE;
    }

    public int feed(int a, int b, int c, int d, int e) {
        if (!tape.hasRoom()) {
            return NONE;
        }
        tape.append(a);
        tape.append(b);
        tape.append(c);
        tape.append(d);
        tape.append(e);
        return tape.length;
    }

    public boolean end(int n) {
        return tape.cut(n);
    }

    public int rider(int team) {
        return riders.add(team);
    }

    public int fence(int metres) {
        int fences = course.addFence(metres);
        board.forget();
        return fences;
    }

    public int course(int end, int speed) {
        int optimum = course.measure(end, speed);
        board.forget();
        return optimum;
    }

    public boolean clock(int post, int ahead) {
        boolean isSet = course.setClock(post, ahead);
        board.forget();
        return isSet;
    }

    public boolean out(int fence, int second) {
        boolean isTaken = course.takeOut(fence, second);
        board.forget();
        return isTaken;
    }

    public int report(int rider, int kind, int fence, int a, int b) {
        if (!riders.has(rider) || !canBe(kind, fence, a, b)) {
            return NONE;
        }
        return log.addReport(rider, kind, fence, a, b);
    }

    public int strike(int act) {
        return log.addStrike(act);
    }

    public boolean as(int act) {
        if (!isWithin(act, NONE, log.acts)) {
            return false;
        }
        askedAct = act;
        return true;
    }

    public int rules() {
        boolean isGood = reader.read(spare);
        tape.cut(0);
        if (!isGood) {
            return NONE;
        }
        Rules before = inForce;
        inForce = spare;
        spare = before;
        board.follow(inForce);
        return inForce.statements;
    }

    public int fault(int what) {
        if (what == 0) {
            return reader.found;
        }
        return what == 1 ? reader.foundAt : NONE;
    }

    public int count(int rider, int what) {
        board.knowAt(toldAct());
        Sheet sheet = board.sheetAt(rider);
        return sheet == null ? NO_COUNT : sheet.countOf(what);
    }

    public long given(int rider, int k) {
        board.knowAt(toldAct());
        Sheet sheet = board.sheetAt(rider);
        if (sheet == null || !isWithin(k, 0, inForce.statements - 1)) {
            return NO_SUM;
        }
        return sheet.valueAt(Sheet.COUNTS + k);
    }

    public long total(int rider) {
        board.knowAt(toldAct());
        Sheet sheet = board.sheetAt(rider);
        return sheet == null ? NO_SUM : sheet.total;
    }

    public int isOut(int rider) {
        board.knowAt(toldAct());
        Sheet sheet = board.sheetAt(rider);
        if (sheet == null) {
            return NONE;
        }
        return sheet.isOff ? 1 : 0;
    }

    public int against(int a, int b) {
        board.knowAt(toldAct());
        Sheet one = board.sheetAt(a);
        Sheet other = board.sheetAt(b);
        if (one == null || other == null || one.isOff || other.isOff) {
            return -2;
        }
        return inForce.compare(one, other);
    }

    public int place(int rider) {
        board.knowAt(toldAct());
        return board.placeOf(rider);
    }

    public long team(int team) {
        board.knowAt(toldAct());
        return riders.sizeOfTeam(team) == 0 ? NONE : board.teamSum(team);
    }

    public int teamPlace(int team) {
        board.knowAt(toldAct());
        return riders.sizeOfTeam(team) == 0 ? NONE : board.placeOfTeam(team);
    }

    public int ring(int i) {
        board.knowAt(toldAct());
        return board.inRing(i);
    }

    public int since(int rider) {
        int told = toldAct();
        board.knowAt(told);
        int now = board.placeOf(rider);
        if (now == NONE) {
            return NONE;
        }
        for (int act = told - 1; act >= 0; act--) {
            board.knowAt(act);
            if (board.placeOf(rider) != now) {
                return act;
            }
        }
        return NONE;
    }

    public int all(int what) {
        switch (what) {
            case 0:
                return riders.number;
            case 1:
                return course.fences;
            case 2:
                return log.acts;
            case 3:
                return course.optimum;
            case 4:
                return inForce.statements;
            case 5:
                return toldAct();
            default:
                return NONE;
        }
    }

    private int toldAct() {
        return askedAct == NONE ? log.acts : askedAct;
    }

    private boolean canBe(int kind, int fence, int a, int b) {
        switch (kind) {
            case Act.MARKS:
                return isWithin(a, 0, 10000);
            case Act.START:
            case Act.FINISH:
                return isWithin(a, 0, LAST_SECOND);
            case Act.REFUSAL:
            case Act.FALL:
            case Act.MISSED:
            case Act.CLEAR:
                return course.hasFence(fence);
            case Act.HOLD:
                return course.hasFence(fence) && a >= 0 && isWithin(b, a, LAST_SECOND);
            case Act.RING:
                return isWithin(a, 0, 9999);
            default:
                return kind == Act.KNOCK || kind == Act.LOOK || kind == Act.RETIRED;
        }
    }

    private static boolean isWithin(int number, int least, int most) {
        return number >= least && number <= most;
    }

    /** The bytes that were fed and not yet read. */
    private static final class Tape {
        static final int MOST = 600;
        private static final int FED_AT_ONCE = 20;

        final int[] bytes = new int[MOST];
        int length;

        boolean hasRoom() {
            return length <= MOST - FED_AT_ONCE;
        }

        void append(int number) {
            for (int shift = 24; shift >= 0 && length < MOST; shift -= 8) {
                bytes[length] = (number >>> shift) & 255;
                length++;
            }
        }

        boolean cut(int n) {
            if (!isWithin(n, 0, length)) {
                return false;
            }
            length = n;
            return true;
        }
    }

    /** Who rides, and for which team. */
    private static final class Riders {
        static final int MOST = 24;
        static final int TEAMS = 6;
        private static final int MOST_OF_TEAM = 4;

        private final int[] teams = new int[MOST];
        private final int[] sizes = new int[TEAMS];
        int number;

        int add(int team) {
            if (number >= MOST || !isWithin(team, NONE, TEAMS - 1) || sizeOfTeam(team) >= MOST_OF_TEAM) {
                return NONE;
            }
            if (team != NONE) {
                sizes[team]++;
            }
            teams[number] = team;
            number++;
            return number - 1;
        }

        boolean has(int rider) {
            return isWithin(rider, 0, number - 1);
        }

        int teamOf(int rider) {
            return has(rider) ? teams[rider] : NONE;
        }

        /** 0 for no team, which is why riders of none are never too many. */
        int sizeOfTeam(int team) {
            return isWithin(team, 0, TEAMS - 1) ? sizes[team] : 0;
        }
    }

    /** The fences, the way between them, and the clocks at the posts. */
    private static final class Course {
        static final int MOST_FENCES = 30;
        static final int START_POST = 0;
        static final int FINISH_POST = 1;
        private static final int FENCE_POSTS = 2;
        private static final int MOST_METRES = 2000;
        private static final int MOST_AHEAD = 600;

        private final int[] aheads = new int[FENCE_POSTS + MOST_FENCES];
        private final int[] outFrom = new int[MOST_FENCES];
        private int fenceMetres;
        private int endMetres;
        private int speed = 500;
        int fences;
        int optimum;

        int addFence(int metres) {
            if (fences >= MOST_FENCES || !isWithin(metres, 0, MOST_METRES)) {
                return NONE;
            }
            outFrom[fences] = NONE;
            fences++;
            fenceMetres += metres;
            setOptimum();
            return fences;
        }

        int measure(int end, int newSpeed) {
            if (!isWithin(end, 0, MOST_METRES) || !isWithin(newSpeed, 100, 700)) {
                return NONE;
            }
            endMetres = end;
            speed = newSpeed;
            setOptimum();
            return optimum;
        }

        private void setOptimum() {
            optimum = speed < 1 ? 0 : (60 * (fenceMetres + endMetres) + speed - 1) / speed;
        }

        boolean setClock(int post, int ahead) {
            if (!isWithin(post, 0, FENCE_POSTS + fences - 1) || !isWithin(ahead, -MOST_AHEAD, MOST_AHEAD)) {
                return false;
            }
            aheads[post] = ahead;
            return true;
        }

        boolean takeOut(int fence, int second) {
            if (!hasFence(fence) || !isWithin(second, NONE, LAST_SECOND)) {
                return false;
            }
            outFrom[fence] = second;
            return true;
        }

        boolean hasFence(int fence) {
            return isWithin(fence, 0, fences - 1);
        }

        int putRight(int post, int second) {
            return isWithin(post, 0, aheads.length - 1) ? second - aheads[post] : second;
        }

        boolean isFenceFor(Sheet sheet, int fence) {
            return hasFence(fence) && (outFrom[fence] == NONE || !sheet.hasStart || sheet.start < outFrom[fence]);
        }
    }

    /** A report, or the strike of one; the reports of one rider are a chain, oldest first. */
    private static final class Act {
        static final int MARKS = 0;
        static final int START = 1;
        static final int FINISH = 2;
        static final int REFUSAL = 3;
        static final int FALL = 4;
        static final int MISSED = 5;
        static final int CLEAR = 6;
        static final int HOLD = 7;
        static final int KNOCK = 8;
        static final int RING = 9;
        static final int LOOK = 10;
        static final int RETIRED = 11;
        static final int STRIKE = 12;

        final int rider;
        final int kind;
        final int fence;
        final int a;
        final int b;
        int number;
        int struckBy = NONE;
        Act next;

        Act(int rider, int kind, int fence, int a, int b) {
            this.rider = rider;
            this.kind = kind;
            this.fence = fence;
            this.a = a;
            this.b = b;
        }

        boolean isKnownAt(int act) {
            return number <= act && (struckBy == NONE || struckBy > act);
        }
    }

    /** All acts in the order in which they came. */
    private static final class Log {
        private static final int MOST = 400;

        private final Act[] written = new Act[MOST + 1];
        private final Act[] oldest = new Act[Riders.MOST];
        private final Act[] newest = new Act[Riders.MOST];
        int acts;

        int addReport(int rider, int kind, int fence, int a, int b) {
            if (acts >= MOST || !isWithin(rider, 0, Riders.MOST - 1)) {
                return NONE;
            }
            Act report = new Act(rider, kind, fence, a, b);
            write(report);
            Act before = newest[rider];
            if (before == null) {
                oldest[rider] = report;
            } else {
                before.next = report;
            }
            newest[rider] = report;
            return acts;
        }

        int addStrike(int number) {
            Act struck = actAt(number);
            if (acts >= MOST || struck == null || struck.kind == Act.STRIKE || struck.struckBy != NONE) {
                return NONE;
            }
            write(new Act(struck.rider, Act.STRIKE, NONE, 0, 0));
            struck.struckBy = acts;
            return acts;
        }

        private void write(Act act) {
            acts++;
            act.number = acts;
            written[acts] = act;
        }

        private Act actAt(int number) {
            return isWithin(number, 1, acts) ? written[number] : null;
        }

        int riderOf(int number) {
            Act act = actAt(number);
            return act == null ? NONE : act.rider;
        }

        Act oldestOf(int rider) {
            return isWithin(rider, 0, Riders.MOST - 1) ? oldest[rider] : null;
        }
    }

    /** What is known of one rider: the counts, and behind them what each statement gives. */
    private static final class Sheet {
        static final int MARKS = 0;
        static final int RING = 1;
        static final int REFUSALS = 2;
        static final int FALLS = 3;
        static final int MISSED = 4;
        static final int FIRST = 5;
        static final int SECOND = 6;
        static final int THIRD = 7;
        static final int KNOCKS = 8;
        static final int LOOKS = 9;
        static final int RETIRED = 10;
        static final int UNSEEN = 11;
        static final int OVER = 12;
        static final int UNDER = 13;
        static final int OPTIMUM = 14;
        static final int COUNTS = 15;
        static final int VALUES = COUNTS + Rules.MOST;
        private static final int NO_SECOND = -1000000;

        final long[] values = new long[VALUES];
        boolean isStale = true;
        boolean hasStart;
        boolean hasFinish;
        int start;
        int finish;
        int time;
        boolean isOff;
        long total;

        void clear() {
            for (int i = 0; i < VALUES; i++) {
                values[i] = 0;
            }
            hasStart = false;
            hasFinish = false;
            start = NO_SECOND;
            finish = NO_SECOND;
            time = NONE;
        }

        int countOf(int what) {
            if (isWithin(what, 0, COUNTS - 1)) {
                return (int) values[what];
            }
            switch (what) {
                case COUNTS:
                    return start;
                case COUNTS + 1:
                    return finish;
                case COUNTS + 2:
                    return time;
                default:
                    return NO_COUNT;
            }
        }

        long valueAt(int slot) {
            return isWithin(slot, 0, VALUES - 1) ? values[slot] : 0;
        }
    }

    /** Makes the counts of a rider from the reports that are known at an act. */
    private static final class Tally {
        private static final int SEEN_KINDS = 4;

        private final Course course;
        private final Log log;
        private final int[] seen = new int[SEEN_KINDS * Course.MOST_FENCES];
        private int held;

        Tally(Course course, Log log) {
            this.course = course;
            this.log = log;
        }

        void fill(Sheet sheet, int rider, int act) {
            sheet.clear();
            held = 0;
            for (int i = 0; i < seen.length; i++) {
                seen[i] = 0;
            }
            for (Act report = log.oldestOf(rider); report != null; report = report.next) {
                if (report.isKnownAt(act)) {
                    take(report, sheet);
                }
            }
            takeTime(sheet);
            // Which fences count hangs on the last start, so they come when all reports are through.
            for (int fence = 0; fence < course.fences; fence++) {
                if (course.isFenceFor(sheet, fence)) {
                    takeFence(fence, sheet.values);
                }
            }
        }

        private void take(Act report, Sheet sheet) {
            switch (report.kind) {
                case Act.MARKS:
                    sheet.values[Sheet.MARKS] = report.a;
                    break;
                case Act.START:
                    sheet.hasStart = true;
                    sheet.start = course.putRight(Course.START_POST, report.a);
                    break;
                case Act.FINISH:
                    sheet.hasFinish = true;
                    sheet.finish = course.putRight(Course.FINISH_POST, report.a);
                    break;
                case Act.HOLD:
                    // One clock tells both ends of a hold, so what it is ahead falls out.
                    held += report.b - report.a;
                    break;
                case Act.KNOCK:
                    sheet.values[Sheet.KNOCKS]++;
                    break;
                case Act.RING:
                    sheet.values[Sheet.RING] = report.a;
                    break;
                case Act.LOOK:
                    sheet.values[Sheet.LOOKS]++;
                    break;
                case Act.RETIRED:
                    sheet.values[Sheet.RETIRED]++;
                    break;
                default:
                    see(report.kind, report.fence);
                    break;
            }
        }

        private void see(int kind, int fence) {
            int i = seenAt(kind, fence);
            if (i != NONE) {
                seen[i]++;
            }
        }

        private int timesSeen(int kind, int fence) {
            int i = seenAt(kind, fence);
            return i == NONE ? 0 : seen[i];
        }

        private static int seenAt(int kind, int fence) {
            if (!isWithin(kind, Act.REFUSAL, Act.CLEAR) || !isWithin(fence, 0, Course.MOST_FENCES - 1)) {
                return NONE;
            }
            return (kind - Act.REFUSAL) * Course.MOST_FENCES + fence;
        }

        private void takeTime(Sheet sheet) {
            int optimum = course.optimum;
            sheet.values[Sheet.OPTIMUM] = optimum;
            if (!sheet.hasStart || !sheet.hasFinish) {
                return;
            }
            sheet.time = Math.max(0, sheet.finish - sheet.start - held);
            sheet.values[Sheet.OVER] = Math.max(0, sheet.time - optimum);
            sheet.values[Sheet.UNDER] = Math.max(0, optimum - sheet.time);
        }

        private void takeFence(int fence, long[] values) {
            int refusals = timesSeen(Act.REFUSAL, fence);
            int falls = timesSeen(Act.FALL, fence);
            int missed = timesSeen(Act.MISSED, fence);
            int clear = timesSeen(Act.CLEAR, fence);
            values[Sheet.REFUSALS] += refusals;
            values[Sheet.FALLS] += falls;
            values[Sheet.MISSED] += missed;
            values[Sheet.FIRST] += refusals >= 1 ? 1 : 0;
            values[Sheet.SECOND] += refusals >= 2 ? 1 : 0;
            values[Sheet.THIRD] += refusals >= 3 ? 1 : 0;
            values[Sheet.UNSEEN] += refusals + falls + missed + clear == 0 ? 1 : 0;
        }
    }

    /** The statements, each as steps over a stack. */
    private static final class Rules {
        static final int MOST = 24;

        static final int GIVES = 0;
        static final int PUTS_OUT = 1;
        static final int PARTS = 2;

        static final int NUMBER = 0;
        static final int VALUE = 1;
        static final int PLUS = 2;
        static final int MINUS = 3;
        static final int TIMES = 4;
        static final int OVER = 5;
        static final int GREATER_OF = 6;
        static final int LESSER_OF = 7;
        static final int IS_BELOW = 8;
        static final int IS_ABOVE = 9;
        static final int IS_LIKE = 10;

        private static final long LIMIT = 1000000000000L;
        // Each open bracket keeps three numbers waiting at most, and six are open at once.
        private static final int STACK = 32;

        private final int[] steps = new int[Tape.MOST];
        private final int[] operands = new int[Tape.MOST];
        private final int[] ends = new int[MOST];
        private final int[] forms = new int[MOST];
        private final long[] stack = new long[STACK];
        private int top;
        private int size;
        private int totalSlot = NONE;
        int statements;

        void clear() {
            size = 0;
            statements = 0;
            totalSlot = NONE;
        }

        void addStep(int step, int operand) {
            if (size < Tape.MOST) {
                steps[size] = step;
                operands[size] = operand;
                size++;
            }
        }

        void closeStatement(int form) {
            if (statements < MOST) {
                forms[statements] = form;
                ends[statements] = size;
                statements++;
            }
        }

        void setTotal(int slot) {
            totalSlot = slot;
        }

        boolean hasTotal() {
            return totalSlot != NONE;
        }

        void apply(Sheet sheet) {
            sheet.isOff = false;
            int from = 0;
            for (int k = 0; k < statements; k++) {
                long value = run(from, ends[k], sheet);
                sheet.values[Sheet.COUNTS + k] = value;
                if (forms[k] == PUTS_OUT && value == 1) {
                    sheet.isOff = true;
                }
                from = ends[k];
            }
            sheet.total = sheet.valueAt(totalSlot);
        }

        /** -1 if the first one is ahead, 1 if the other one is, 0 if neither. */
        int compare(Sheet one, Sheet other) {
            int order = orderOf(one.total, other.total);
            for (int k = 0; k < statements && order == 0; k++) {
                if (forms[k] == PARTS) {
                    order = orderOf(one.values[Sheet.COUNTS + k], other.values[Sheet.COUNTS + k]);
                }
            }
            return order;
        }

        private static int orderOf(long one, long other) {
            if (one == other) {
                return 0;
            }
            return one < other ? -1 : 1;
        }

        private long run(int from, int to, Sheet sheet) {
            top = 0;
            for (int i = from; i < to; i++) {
                doStep(steps[i], operands[i], sheet);
            }
            return pop();
        }

        private void doStep(int step, int operand, Sheet sheet) {
            if (step == NUMBER) {
                push(operand);
            } else if (step == VALUE) {
                push(sheet.valueAt(operand));
            } else if (step == OVER) {
                push(operand < 1 ? 0 : Math.floorDiv(pop(), (long) operand));
            } else {
                long right = pop();
                long left = pop();
                push(join(step, left, right));
            }
        }

        private void push(long number) {
            if (top < STACK) {
                stack[top] = number;
                top++;
            }
        }

        private long pop() {
            if (top < 1) {
                return 0;
            }
            top--;
            return stack[top];
        }

        private static long join(int step, long left, long right) {
            switch (step) {
                case PLUS:
                    return limited(left + right);
                case MINUS:
                    return limited(left - right);
                case TIMES:
                    return product(left, right);
                case GREATER_OF:
                    return Math.max(left, right);
                case LESSER_OF:
                    return Math.min(left, right);
                case IS_BELOW:
                    return left < right ? 1 : 0;
                case IS_ABOVE:
                    return left > right ? 1 : 0;
                default:
                    return left == right ? 1 : 0;
            }
        }

        private static long limited(long number) {
            return Math.max(-LIMIT, Math.min(LIMIT, number));
        }

        /** Looks before it multiplies: two numbers within the limit can overflow a long. */
        private static long product(long left, long right) {
            if (left == 0 || right == 0) {
                return 0;
            }
            if (Math.abs(left) > LIMIT / Math.abs(right)) {
                return (left < 0) == (right < 0) ? LIMIT : -LIMIT;
            }
            return left * right;
        }
    }

    /** Reads the rules' text, one word, number or sign ahead. */
    private static final class Reader {
        private static final int NO_TEXT = 1;
        private static final int BY_ZERO = 2;
        private static final int WRONG_NAME = 3;
        private static final int NO_TOTAL = 4;

        private static final int MOST_LETTERS = 10;
        private static final int MOST_DIGITS = 5;
        private static final int MOST_OPEN = 6;

        private static final int END = -1;
        private static final int WORD = 'a';
        private static final int DIGITS = '0';

        // A word is one number, five bits a letter: so words are alike if their numbers are. No letter is 0,
        // so that a word too long to be kept whole is still unlike all that are not.
        private static final int LETTER_BITS = 5;
        private static final int BEFORE_A = 'a' - 1;

        private static final String COUNT_WORDS =
                "marks ring refusals falls missed first second third knocks looks retired unseen over under optimum";

        private final long outWord = packed("out");
        private final long ifWord = packed("if");
        private final long tieWord = packed("tie");
        private final long maxWord = packed("max");
        private final long minWord = packed("min");
        private final long totalWord = packed("total");
        private final long[] names = new long[Sheet.VALUES];

        private final Tape tape;
        private Rules rules;
        private int at;
        private int token;
        private int tokenAt;
        private long tokenValue;
        int found;
        int foundAt = NONE;

        Reader(Tape tape) {
            this.tape = tape;
            int slot = 0;
            for (int i = 0; i < COUNT_WORDS.length() && slot < Sheet.COUNTS; i++) {
                char letter = COUNT_WORDS.charAt(i);
                if (letter == ' ') {
                    slot++;
                } else {
                    names[slot] = withLetter(names[slot], letter);
                }
            }
        }

        private static long packed(String word) {
            long number = 0;
            for (int i = 0; i < word.length(); i++) {
                number = withLetter(number, word.charAt(i));
            }
            return number;
        }

        private static long withLetter(long word, int letter) {
            return (word << LETTER_BITS) | (letter - BEFORE_A);
        }

        boolean read(Rules into) {
            rules = into;
            rules.clear();
            for (int slot = Sheet.COUNTS; slot < Sheet.VALUES; slot++) {
                names[slot] = 0;
            }
            found = 0;
            foundAt = NONE;
            at = 0;
            advance();
            for (int k = 0; k <= Rules.MOST && token != END; k++) {
                if (k == Rules.MOST || token != WORD) {
                    fail(NO_TEXT, tokenAt);
                } else if (tokenValue == outWord) {
                    readOutIf();
                } else if (tokenValue == tieWord) {
                    readTie();
                } else {
                    readGiving(Sheet.COUNTS + k);
                }
                expect(';');
            }
            if (!rules.hasTotal()) {
                fail(NO_TOTAL, tape.length);
            }
            return found == 0;
        }

        private void readTie() {
            advance();
            readSum(0);
            rules.closeStatement(Rules.PARTS);
        }

        private void readOutIf() {
            advance();
            if (token != WORD || tokenValue != ifWord) {
                fail(NO_TEXT, tokenAt);
            }
            advance();
            readSum(0);
            int step = comparison();
            advance();
            readSum(0);
            rules.addStep(step, 0);
            rules.closeStatement(Rules.PUTS_OUT);
        }

        private int comparison() {
            switch (token) {
                case '<':
                    return Rules.IS_BELOW;
                case '>':
                    return Rules.IS_ABOVE;
                case '=':
                    return Rules.IS_LIKE;
                default:
                    fail(NO_TEXT, tokenAt);
                    return Rules.IS_LIKE;
            }
        }

        private void readGiving(int slot) {
            long name = tokenValue;
            takeName(false);
            expect('=');
            readSum(0);
            rules.closeStatement(Rules.GIVES);
            // Only now, for the name is not known in its own sum.
            names[slot] = name;
            if (name == totalWord) {
                rules.setTotal(slot);
            }
        }

        private void readSum(int open) {
            readProduct(open);
            for (int n = 0; n < Tape.MOST && (token == '+' || token == '-'); n++) {
                int step = token == '+' ? Rules.PLUS : Rules.MINUS;
                advance();
                readProduct(open);
                rules.addStep(step, 0);
            }
        }

        private void readProduct(int open) {
            readFactor(open);
            for (int n = 0; n < Tape.MOST && (token == '*' || token == '/'); n++) {
                boolean isTimes = token == '*';
                advance();
                if (isTimes) {
                    readFactor(open);
                    rules.addStep(Rules.TIMES, 0);
                } else {
                    readDivisor();
                }
            }
        }

        private void readFactor(int open) {
            int pairStep = pairStep();
            if (token == DIGITS) {
                rules.addStep(Rules.NUMBER, takeNumber());
                return;
            }
            if (token == WORD && pairStep == NONE) {
                rules.addStep(Rules.VALUE, takeName(true));
                return;
            }
            if (pairStep != NONE) {
                advance();
            }
            if (token != '(' || open >= MOST_OPEN) {
                fail(NO_TEXT, tokenAt);
                return;
            }
            advance();
            readSum(open + 1);
            if (pairStep != NONE) {
                expect(',');
                readSum(open + 1);
                rules.addStep(pairStep, 0);
            }
            expect(')');
        }

        private int pairStep() {
            if (token == WORD && tokenValue == maxWord) {
                return Rules.GREATER_OF;
            }
            return token == WORD && tokenValue == minWord ? Rules.LESSER_OF : NONE;
        }

        private void readDivisor() {
            int numberAt = tokenAt;
            if (token != DIGITS) {
                fail(NO_TEXT, tokenAt);
            }
            int number = takeNumber();
            if (number == 0) {
                fail(BY_ZERO, numberAt);
            }
            rules.addStep(Rules.OVER, number);
        }

        private int takeNumber() {
            if (at - tokenAt > MOST_DIGITS) {
                fail(NO_TEXT, tokenAt + MOST_DIGITS);
            }
            int number = (int) tokenValue;
            advance();
            return number;
        }

        /** In a sum a name is known already; where it is given one, it is new. */
        private int takeName(boolean isInSum) {
            int slot = slotOf(tokenValue);
            if (isKept(tokenValue)) {
                fail(NO_TEXT, tokenAt);
            } else if (at - tokenAt > MOST_LETTERS) {
                fail(NO_TEXT, tokenAt + MOST_LETTERS);
            } else if ((slot != NONE) != isInSum) {
                fail(WRONG_NAME, tokenAt);
            }
            advance();
            return slot;
        }

        private boolean isKept(long word) {
            return word == outWord || word == ifWord || word == tieWord || word == maxWord || word == minWord;
        }

        private int slotOf(long name) {
            for (int slot = 0; slot < Sheet.VALUES; slot++) {
                if (names[slot] == name) {
                    return slot;
                }
            }
            return NONE;
        }

        private void expect(int sign) {
            if (token != sign) {
                fail(NO_TEXT, tokenAt);
            }
            advance();
        }

        /** The first fault is the one that is told; behind it the text is taken as read. */
        private void fail(int fault, int place) {
            if (found == 0) {
                found = fault;
                foundAt = place;
            }
            at = tape.length;
            token = END;
        }

        /** Takes words and numbers whole, however long: whether one fits here is looked at first. */
        private void advance() {
            int[] bytes = tape.bytes;
            int length = tape.length;
            while (at < length && (bytes[at] == ' ' || bytes[at] == '\n')) {
                at++;
            }
            tokenAt = at;
            tokenValue = 0;
            token = at < length ? bytes[at] : END;
            if (token >= 'a' && token <= 'z') {
                token = WORD;
                for (; at < length && bytes[at] >= 'a' && bytes[at] <= 'z'; at++) {
                    tokenValue = (tokenValue << LETTER_BITS) | (bytes[at] - BEFORE_A);
                }
            } else if (token >= '0' && token <= '9') {
                token = DIGITS;
                for (; at < length && bytes[at] >= '0' && bytes[at] <= '9'; at++) {
                    tokenValue = tokenValue * 10 + (bytes[at] - '0');
                }
            } else if (token != END) {
                at++;
            }
        }
    }

    /** The sheets of all riders as known at one act, and how they and their teams stand by them. */
    private static final class Board {
        private static final int COUNTED_OF_TEAM = 3;
        private static final long FOR_LACKING = 10000;

        private final Riders riders;
        private final Log log;
        private final Tally tally;
        private final Sheet[] sheets = new Sheet[Riders.MOST];
        private Rules rules;
        private int knownAct;

        Board(Riders riders, Course course, Log log, Rules rules) {
            this.riders = riders;
            this.log = log;
            this.rules = rules;
            tally = new Tally(course, log);
            for (int i = 0; i < Riders.MOST; i++) {
                sheets[i] = new Sheet();
            }
        }

        void forget() {
            for (int rider = 0; rider < Riders.MOST; rider++) {
                markStale(rider);
            }
        }

        void follow(Rules newRules) {
            rules = newRules;
            forget();
        }

        /** What the other methods answer is as known at the act that was named here last. */
        void knowAt(int act) {
            moveTo(act);
            for (int rider = 0; rider < riders.number; rider++) {
                Sheet sheet = sheets[rider];
                if (sheet.isStale) {
                    tally.fill(sheet, rider, act);
                    rules.apply(sheet);
                    sheet.isStale = false;
                }
            }
        }

        /** Only the riders of the acts between are known otherwise there. */
        private void moveTo(int act) {
            int last = Math.max(knownAct, act);
            for (int between = Math.min(knownAct, act) + 1; between <= last; between++) {
                markStale(log.riderOf(between));
            }
            knownAct = act;
        }

        private void markStale(int rider) {
            if (isWithin(rider, 0, Riders.MOST - 1)) {
                sheets[rider].isStale = true;
            }
        }

        Sheet sheetAt(int rider) {
            return riders.has(rider) ? sheets[rider] : null;
        }

        int placeOf(int rider) {
            Sheet sheet = sheetAt(rider);
            if (sheet == null) {
                return NONE;
            }
            return sheet.isOff ? 0 : 1 + numberAhead(sheet);
        }

        private int numberAhead(Sheet sheet) {
            int ahead = 0;
            for (int other = 0; other < riders.number; other++) {
                if (!sheets[other].isOff && rules.compare(sheets[other], sheet) < 0) {
                    ahead++;
                }
            }
            return ahead;
        }

        int inRing(int i) {
            for (int rider = 0; rider < riders.number; rider++) {
                if (!sheets[rider].isOff && numberEarlier(rider) == i) {
                    return rider;
                }
            }
            return NONE;
        }

        private int numberEarlier(int rider) {
            int earlier = 0;
            for (int other = 0; other < riders.number; other++) {
                int order = rules.compare(sheets[other], sheets[rider]);
                if (!sheets[other].isOff && (order > 0 || order == 0 && other > rider)) {
                    earlier++;
                }
            }
            return earlier;
        }

        long teamSum(int team) {
            long sum = 0;
            long greatest = 0;
            int placed = 0;
            for (int rider = 0; rider < riders.number; rider++) {
                if (isPlacedFor(team, rider)) {
                    long total = sheets[rider].total;
                    greatest = placed == 0 ? total : Math.max(greatest, total);
                    sum += total;
                    placed++;
                }
            }
            // A team has one rider more than count, so only the worst one can be too many.
            return placed > COUNTED_OF_TEAM ? sum - greatest : sum + FOR_LACKING * (COUNTED_OF_TEAM - placed);
        }

        private long leastOfTeam(int team) {
            boolean isFound = false;
            long least = FOR_LACKING;
            for (int rider = 0; rider < riders.number; rider++) {
                if (isPlacedFor(team, rider)) {
                    long total = sheets[rider].total;
                    least = isFound ? Math.min(least, total) : total;
                    isFound = true;
                }
            }
            return least;
        }

        private boolean isPlacedFor(int team, int rider) {
            return riders.teamOf(rider) == team && !sheets[rider].isOff;
        }

        int placeOfTeam(int team) {
            long sum = teamSum(team);
            long least = leastOfTeam(team);
            int place = 1;
            for (int other = 0; other < Riders.TEAMS; other++) {
                long otherSum = teamSum(other);
                boolean isAhead = otherSum < sum || otherSum == sum && leastOfTeam(other) < least;
                if (riders.sizeOfTeam(other) > 0 && isAhead) {
                    place++;
                }
            }
            return place;
        }
    }
}
