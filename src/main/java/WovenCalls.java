/** Methods that emit, call and fail, with advice woven about them; ../shared/DOC.md tells every answer. */
public final class WovenCalls {
    public static final int NONE = -1000000, BAD = -1000001, STATE = -1000002, FULL = -1000003;

    private static final int FINDING_BASE = -1000010, FAULT_BASE = -1000100;
    private static final int NULL = 1, PLACE = 2, KIND = 3, SIZE = 4, STORE = 5;

    private static final int MOST_ROWS = 8, MOST_ITEMS = 40, MOST_BYTES = 130;
    private static final int MOST_METHODS = 6, MOST_STATEMENTS = 4, MOST_ADVICE = 5;
    private static final int MOST_EMITTED = 99, MOST_CALLS = 300, MOST_ARGUMENT = 9;
    private static final int MOST_ACTS = 16, MOST_TRACED = 16, MOST_IMAGES = 2;

    private static final int BYTES = 0, SHORTS = 1, INTS = 2;
    private static final int EMIT = 0, CALL = 1, FAIL = 2;
    private static final int LAST_CLASS = 3, ANY_CLASS = 4, ANY_METHOD = 6, NO_FLOW = 6, EVERY_ARGUMENT = 10;

    /** The kinds of advice; 0 is advice of no nearer kind, which none ever is. */
    private static final int AFTER = 1, RETURNING = 2, THROWING = 3, AROUND = 4, BEFORE = 5;

    /** The facts of an advice, numbered as advice() asks for them; its kind stands behind them. */
    private static final int NUMBER_FACT = 0, CLASS_FACT = 1, METHOD_FACT = 2, BELOW_FACT = 3, FLOW_FACT = 4,
            KIND_FACT = 5, FACTS = 6;

    private static final int NEVER = 0, ALWAYS = 1, TESTED = 2;

    /** Of each class (and of any) the classes, as bits, that are it or below it. */
    private static final int[] CLASS_OR_BELOW = {15, 10, 4, 8, 15};

    /** Of each kind the kinds, as bits, that it is. */
    private static final int[] KINDS_OF_KIND = {1, 3, 7, 11, 17, 49};

    private final Row[] rows = new Row[MOST_ROWS];
    private final Tape tape = new Tape();
    private final Weave woven = new Weave();
    private final Weave trial = new Weave();
    private final Weave[] images = new Weave[MOST_IMAGES];
    private final Acts acts = new Acts();
    private final Run latest = new Run(woven);
    private final Asks asks = new Asks(woven);
    private int latestFault = 0;
    private int latestFinding = 0;

    public WovenCalls() {
        for (int i = 0; i < MOST_ROWS; i++) {
            rows[i] = new Row();
        }
        for (int i = 0; i < MOST_IMAGES; i++) {
            images[i] = new Weave();
        }
    }

    // ---- rows

    public int row(int row, int lane, int n) {
        if (!isRow(row) || !isWithin(lane, BYTES, INTS) || n > MOST_ITEMS) {
            return BAD;
        }
        if (n < 0) {
            return find(SIZE);
        }
        rows[row].make(lane, n);
        return findNothing(n);
    }

    public int set(int row, int i, int v) {
        if (!isRow(row)) {
            return BAD;
        }
        if (rows[row].isMissing()) {
            return find(NULL);
        }
        if (i < 0 || i >= rows[row].size()) {
            return find(PLACE);
        }
        return findNothing(rows[row].put(i, v));
    }

    public int copy(int a, int i, int b, int j, int n) {
        if (!isRow(a) || !isRow(b)) {
            return BAD;
        }
        if (rows[a].isMissing() || rows[b].isMissing()) {
            return find(NULL);
        }
        if (rows[a].lane() != rows[b].lane()) {
            return find(STORE);
        }
        if (!rows[a].holds(i, n) || !rows[b].holds(j, n)) {
            return find(PLACE);
        }
        rows[b].take(rows[a], i, j, n);
        return findNothing(n);
    }

    public int drop(int row) {
        if (!isRow(row)) {
            return BAD;
        }
        if (rows[row].isMissing()) {
            return find(NULL);
        }
        int had = rows[row].size();
        rows[row].lose();
        return findNothing(had);
    }

    // ---- weaves, acts

    public int feed(int letter) {
        if (!isWithin(letter, 0, 255)) {
            return BAD;
        }
        return tape.add(letter) ? tape.size() : FULL;
    }

    public int weave() {
        int fault = tape.read(trial);
        if (fault != 0) {
            latestFault = fault;
            return FAULT_BASE - tape.faultPlace();
        }
        woven.take(trial);
        acts.forget();
        return woven.methods();
    }

    public int fault() {
        return latestFault;
    }

    public int change(int advice, int which, int v) {
        if (!isAdvice(advice)) {
            return BAD;
        }
        if (which == 0 && isWithin(v, 1, 99)) {
            return changeFact(advice, NUMBER_FACT, v);
        }
        if (which == 1 && isWithin(v, 0, EVERY_ARGUMENT)) {
            return changeFact(advice, BELOW_FACT, v);
        }
        if (which == 2 && isWithin(v, 0, NO_FLOW)) {
            return changeFact(advice, FLOW_FACT, v);
        }
        return BAD;
    }

    public int become(int advice, int kind) {
        if (!isAdvice(advice) || !isWithin(kind, AFTER, BEFORE)) {
            return BAD;
        }
        if (woven.fact(advice, KIND_FACT) == kind) {
            return STATE;
        }
        return changeFact(advice, KIND_FACT, kind);
    }

    public int swap(int a, int b) {
        if (!isAdvice(a) || !isAdvice(b)) {
            return BAD;
        }
        if (a == b) {
            return STATE;
        }
        acts.keepExchange(a, b);
        woven.exchange(a, b);
        return Math.abs(a - b) + 1;
    }

    public int state(int method, int i, int sort, int v) {
        if (!isMethod(method) || i < 0 || i >= woven.length(method) || !isStatement(sort, v)) {
            return BAD;
        }
        int was = woven.sort(method, i);
        acts.keepStatement(method, i, was, woven.operand(method, i));
        woven.putStatement(method, i, sort, v);
        return was;
    }

    public int belong(int method, int clazz) {
        if (!isMethod(method) || !isWithin(clazz, 0, LAST_CLASS)) {
            return BAD;
        }
        int was = woven.classOf(method);
        if (was == clazz) {
            return STATE;
        }
        acts.keepClass(method, was);
        woven.putClass(method, clazz);
        return was;
    }

    public int undo() {
        if (acts.size() == 0) {
            return STATE;
        }
        acts.takeBack(woven);
        return acts.size();
    }

    public int method(int method, int what) {
        if (!isMethod(method)) {
            return BAD;
        }
        switch (what) {
            case 0:
                return woven.classOf(method);
            case 1:
                return woven.length(method);
            case 2:
                return woven.reachedFrom(method);
            default:
                return statementOf(method, what);
        }
    }

    public int advice(int advice, int what) {
        if (!isAdvice(advice) || !isWithin(what, NUMBER_FACT, FLOW_FACT)) {
            return BAD;
        }
        return woven.fact(advice, what);
    }

    public int ahead(int method, int advice) {
        if (!isMethod(method) || !isAdvice(advice)) {
            return BAD;
        }
        return woven.known(method, advice);
    }

    // ---- runs

    public int run(int method, int argument, int what) {
        if (!isMethod(method) || !isArgument(argument) || what < -5) {
            return BAD;
        }
        latest.make(woven, method, argument);
        if (latest.isFull()) {
            return FULL;
        }
        switch (what) {
            case -1:
                return latest.size();
            case -2:
                return latest.failure();
            case -3:
                return latest.returned();
            case -4:
                return latest.calls();
            case -5:
                return latest.tests();
            default:
                return latest.number(what);
        }
    }

    public int least(int method) {
        if (!isMethod(method)) {
            return BAD;
        }
        for (int x = 0; x <= MOST_ARGUMENT; x++) {
            latest.make(woven, method, x);
            if (latest.fails()) {
                return x;
            }
        }
        return NONE;
    }

    public int needed(int method, int argument) {
        if (!isMethod(method) || !isArgument(argument)) {
            return BAD;
        }
        latest.make(woven, method, argument);
        if (latest.isFull()) {
            return FULL;
        }
        int size = latest.size();
        int failure = latest.failure();
        int returned = latest.returned();
        int bits = 0;
        for (int a = 0; a < woven.adviceCount(); a++) {
            trial.take(woven);
            trial.putFact(a, BELOW_FACT, 0);
            latest.make(trial, method, argument);
            if (!latest.endsAs(size, failure, returned)) {
                bits |= 1 << a;
            }
        }
        return bits;
    }

    public int fits(int advice, int method, int argument, int row, int what) {
        if (!isAdvice(advice) || !isMethod(method) || !isArgument(argument) || !isRow(row)
                || !isWithin(what, 0, 2)) {
            return BAD;
        }
        if (rows[row].isMissing()) {
            return find(NULL);
        }
        if (rows[row].size() == 0) {
            return find(PLACE);
        }
        int first = what == 0 ? AFTER : 0;
        int bits = 0;
        for (int v = first; v <= lastTried(what); v++) {
            trial.take(woven);
            tryWith(advice, what, v);
            latest.make(trial, method, argument);
            if (latest.beginsWith(rows[row])) {
                bits |= 1 << v;
            }
        }
        return findNothing(bits);
    }

    public int drawn(int n, int seed, int what) {
        int methods = woven.methods();
        if (methods == 0) {
            return STATE;
        }
        if (!isWithin(n, 0, 20) || !isWithin(seed, 1, 999999) || !isWithin(what, 0, 1)) {
            return BAD;
        }
        long x = seed;
        int together = 0;
        for (int i = 0; i < n; i++) {
            x = x * 16807L % 2147483647L;
            latest.make(woven, (int) (x % methods), (int) (x / 8 % 6));
            if (!latest.isFull()) {
                together += what == 0 ? latest.size() : latest.fails() ? 1 : 0;
            }
        }
        return together;
    }

    public int image(int k) {
        if (!isImage(k)) {
            return BAD;
        }
        if (woven.methods() == 0) {
            return STATE;
        }
        images[k].take(woven);
        return 1;
    }

    public int restore(int k) {
        if (!isImage(k)) {
            return BAD;
        }
        if (images[k].methods() == 0) {
            return STATE;
        }
        woven.take(images[k]);
        acts.forget();
        return 1;
    }

    // ---- asked

    public int kind(int advice) {
        return isAdvice(advice) ? woven.fact(advice, KIND_FACT) : BAD;
    }

    public int as(int advice, int kind) {
        if (!isAdvice(advice) || !isWithin(kind, 0, BEFORE)) {
            return BAD;
        }
        int kinds = KINDS_OF_KIND[woven.fact(advice, KIND_FACT)];
        return hasBit(kinds, kind) ? findNothing(advice) : find(KIND);
    }

    public int ask(int advice, int what) {
        if (!isAdvice(advice) || !isWithin(what, 0, 1)) {
            return BAD;
        }
        return asks.answer(advice, what);
    }

    public int trace(int i) {
        return asks.traced(i);
    }

    public int count(int what) {
        switch (what) {
            case 0:
                return rowsThere();
            case 1:
                return woven.methods();
            case 2:
                return woven.adviceCount();
            case 3:
                return woven.statements();
            case 4:
                return acts.size();
            case 5:
                return tape.size();
            default:
                return BAD;
        }
    }

    public int status() {
        return latestFinding;
    }

    // ---- behind the face

    private static boolean isWithin(int v, int least, int most) {
        return v >= least && v <= most;
    }

    private static boolean hasBit(int bits, int i) {
        return (bits >> i & 1) != 0;
    }

    private static boolean isRow(int row) {
        return isWithin(row, 0, MOST_ROWS - 1);
    }

    private static boolean isArgument(int argument) {
        return isWithin(argument, 0, MOST_ARGUMENT);
    }

    private static boolean isImage(int k) {
        return isWithin(k, 0, MOST_IMAGES - 1);
    }

    private boolean isMethod(int method) {
        return isWithin(method, 0, woven.methods() - 1);
    }

    private boolean isAdvice(int advice) {
        return isWithin(advice, 0, woven.adviceCount() - 1);
    }

    private boolean isStatement(int sort, int v) {
        switch (sort) {
            case EMIT:
                return isWithin(v, 1, 99);
            case CALL:
                return isMethod(v);
            case FAIL:
                return isWithin(v, 1, 9);
            default:
                return false;
        }
    }

    private int find(int finding) {
        latestFinding = finding;
        return FINDING_BASE - finding;
    }

    private int findNothing(int answer) {
        latestFinding = 0;
        return answer;
    }

    private int rowsThere() {
        int there = 0;
        for (int i = 0; i < MOST_ROWS; i++) {
            there += rows[i].isMissing() ? 0 : 1;
        }
        return there;
    }

    private int changeFact(int advice, int fact, int v) {
        int was = woven.fact(advice, fact);
        acts.keepFact(advice, fact, was);
        woven.putFact(advice, fact, v);
        return was;
    }

    private int statementOf(int method, int what) {
        boolean isSort = isWithin(what, 10, 9 + MOST_STATEMENTS);
        if (!isSort && !isWithin(what, 20, 19 + MOST_STATEMENTS)) {
            return BAD;
        }
        int i = what % 10;
        if (i >= woven.length(method)) {
            return NONE;
        }
        return isSort ? woven.sort(method, i) : woven.operand(method, i);
    }

    private int lastTried(int what) {
        switch (what) {
            case 0:
                return BEFORE;
            case 1:
                return EVERY_ARGUMENT;
            default:
                return woven.adviceCount() - 1;
        }
    }

    private void tryWith(int advice, int what, int v) {
        switch (what) {
            case 0:
                trial.putFact(advice, KIND_FACT, v);
                break;
            case 1:
                trial.putFact(advice, BELOW_FACT, v);
                break;
            default:
                trial.exchange(advice, v);
                break;
        }
    }

    /** A row keeps its items as long as it lives, so that making one anew makes no object. */
    private static final class Row {
        private static final int MISSING = -1;

        private final int[] items = new int[MOST_ITEMS];
        private int lane = BYTES;
        private int size = MISSING;

        boolean isMissing() {
            return size == MISSING;
        }

        int size() {
            return size;
        }

        int lane() {
            return lane;
        }

        int item(int i) {
            return items[i];
        }

        void make(int newLane, int n) {
            lane = newLane;
            size = n;
            for (int i = 0; i < n; i++) {
                items[i] = 0;
            }
        }

        void lose() {
            size = MISSING;
        }

        int put(int i, int v) {
            items[i] = lane == BYTES ? (byte) v : lane == SHORTS ? (short) v : v;
            return items[i];
        }

        /** The end is looked for by a difference, since a sum of two ints could wrap around. */
        boolean holds(int from, int n) {
            return from >= 0 && n >= 0 && from <= size && n <= size - from;
        }

        void take(Row other, int from, int to, int n) {
            System.arraycopy(other.items, from, items, to, n);
        }
    }

    /** The bytes fed, and the reading of them. After a fault no token is stepped over, so its place stays. */
    private static final class Tape {
        private static final int NUMBER = -1, END = -2, WRONG = -3;
        private static final int MISPLACED = 1, OUT_OF_RANGE = 2, NO_ROOM = 3, NO_METHOD = 4;

        private final int[] bytes = new int[MOST_BYTES];
        private int size = 0;
        private int start = 0;
        private int next = 0;
        private int token = END;
        private int value = 0;
        private int fault = 0;

        int size() {
            return size;
        }

        int faultPlace() {
            return start;
        }

        boolean add(int letter) {
            if (size >= MOST_BYTES) {
                return false;
            }
            bytes[size] = letter;
            size++;
            return true;
        }

        /** Reads into a weave, which is of use only if the answer is 0, else that is the fault's number. */
        int read(Weave into) {
            into.clear();
            fault = 0;
            next = 0;
            step();
            for (int i = 0; i <= MOST_METHODS && fault == 0 && (i == 0 || token == 'm'); i++) {
                readMethod(into);
            }
            for (int i = 0; i <= MOST_ADVICE && fault == 0 && kindOf(token) != 0; i++) {
                readAdvice(into);
            }
            if (token != END) {
                faultBy(MISPLACED);
            } else if (fault == 0 && !into.callsOnlyWhatIsThere()) {
                faultBy(NO_METHOD);
            }
            size = 0;
            return fault;
        }

        private void readMethod(Weave into) {
            if (token != 'm') {
                faultBy(MISPLACED);
                return;
            }
            if (into.methods() >= MOST_METHODS) {
                faultBy(NO_ROOM);
                return;
            }
            step();
            into.addMethod(readNumber(0, LAST_CLASS));
            for (int i = 0; i <= MOST_STATEMENTS && fault == 0 && token != ';'; i++) {
                readStatement(into, i);
            }
            skip(';');
        }

        private void readStatement(Weave into, int i) {
            int sort = sortOf(token);
            if (i >= MOST_STATEMENTS || sort < 0) {
                faultBy(MISPLACED);
                return;
            }
            step();
            int least = sort == CALL ? 0 : 1;
            int most = sort == EMIT ? 99 : sort == CALL ? MOST_METHODS - 1 : 9;
            into.addStatement(sort, readNumber(least, most));
        }

        private void readAdvice(Weave into) {
            if (into.adviceCount() >= MOST_ADVICE) {
                faultBy(NO_ROOM);
                return;
            }
            int place = into.addAdvice(kindOf(token));
            step();
            into.putFact(place, NUMBER_FACT, readNumber(1, 99));
            skip(',');
            into.putFact(place, CLASS_FACT, readNumber(0, ANY_CLASS));
            skip(',');
            into.putFact(place, METHOD_FACT, readNumber(0, ANY_METHOD));
            skip(',');
            into.putFact(place, BELOW_FACT, readNumber(0, EVERY_ARGUMENT));
            skip(',');
            into.putFact(place, FLOW_FACT, readNumber(0, NO_FLOW));
            skip(';');
        }

        private int readNumber(int least, int most) {
            if (fault != 0) {
                return least;
            }
            if (token != NUMBER) {
                faultBy(MISPLACED);
                return least;
            }
            if (!isWithin(value, least, most)) {
                faultBy(OUT_OF_RANGE);
                return least;
            }
            int read = value;
            step();
            return read;
        }

        private void skip(int sign) {
            if (fault != 0) {
                return;
            }
            if (token == sign) {
                step();
            } else {
                faultBy(MISPLACED);
            }
        }

        private void faultBy(int number) {
            if (fault == 0) {
                fault = number;
            }
        }

        /** A run of figures may make the value wrap around, but then it is too long and none reads it. */
        private void step() {
            start = next;
            value = 0;
            while (next < size && isFigure(bytes[next])) {
                value = value * 10 + bytes[next] - '0';
                next++;
            }
            if (next > start) {
                token = next - start > 2 ? WRONG : NUMBER;
            } else if (start >= size) {
                token = END;
            } else {
                token = isLetterOrSign(bytes[start]) ? bytes[start] : WRONG;
                next++;
            }
        }

        private static boolean isFigure(int letter) {
            return letter >= '0' && letter <= '9';
        }

        private static boolean isLetterOrSign(int letter) {
            return letter >= 'a' && letter <= 'z' || letter == ',' || letter == ';';
        }

        private static int sortOf(int letter) {
            switch (letter) {
                case 'e':
                    return EMIT;
                case 'c':
                    return CALL;
                case 'f':
                    return FAIL;
                default:
                    return -1;
            }
        }

        private static int kindOf(int letter) {
            switch (letter) {
                case 'a':
                    return AFTER;
                case 'r':
                    return RETURNING;
                case 't':
                    return THROWING;
                case 'o':
                    return AROUND;
                case 'b':
                    return BEFORE;
                default:
                    return 0;
            }
        }
    }

    /** Methods and advice, and what is known of them ahead of runs. One without methods is no weave. */
    private static final class Weave {
        private final int[] classes = new int[MOST_METHODS];
        private final int[] lengths = new int[MOST_METHODS];
        private final int[] sorts = new int[MOST_METHODS * MOST_STATEMENTS];
        private final int[] operands = new int[MOST_METHODS * MOST_STATEMENTS];
        private final int[] facts = new int[MOST_ADVICE * FACTS];
        private int methods = 0;
        private int adviceCount = 0;

        void clear() {
            methods = 0;
            adviceCount = 0;
        }

        void take(Weave other) {
            System.arraycopy(other.classes, 0, classes, 0, MOST_METHODS);
            System.arraycopy(other.lengths, 0, lengths, 0, MOST_METHODS);
            System.arraycopy(other.sorts, 0, sorts, 0, MOST_METHODS * MOST_STATEMENTS);
            System.arraycopy(other.operands, 0, operands, 0, MOST_METHODS * MOST_STATEMENTS);
            System.arraycopy(other.facts, 0, facts, 0, MOST_ADVICE * FACTS);
            methods = other.methods;
            adviceCount = other.adviceCount;
        }

        int methods() {
            return methods;
        }

        int adviceCount() {
            return adviceCount;
        }

        int statements() {
            int all = 0;
            for (int m = 0; m < methods; m++) {
                all += lengths[m];
            }
            return all;
        }

        int classOf(int method) {
            return classes[method];
        }

        void putClass(int method, int clazz) {
            classes[method] = clazz;
        }

        int length(int method) {
            return lengths[method];
        }

        int sort(int method, int i) {
            return sorts[method * MOST_STATEMENTS + i];
        }

        int operand(int method, int i) {
            return operands[method * MOST_STATEMENTS + i];
        }

        void putStatement(int method, int i, int sort, int v) {
            sorts[method * MOST_STATEMENTS + i] = sort;
            operands[method * MOST_STATEMENTS + i] = v;
        }

        int fact(int advice, int fact) {
            return facts[advice * FACTS + fact];
        }

        void putFact(int advice, int fact, int v) {
            facts[advice * FACTS + fact] = v;
        }

        void exchange(int a, int b) {
            for (int i = 0; i < FACTS; i++) {
                int ofA = fact(a, i);
                putFact(a, i, fact(b, i));
                putFact(b, i, ofA);
            }
        }

        void addMethod(int clazz) {
            if (methods < MOST_METHODS) {
                classes[methods] = clazz;
                lengths[methods] = 0;
                methods++;
            }
        }

        /** Adds to the method that was added last. */
        void addStatement(int sort, int v) {
            int last = methods - 1;
            if (last >= 0 && lengths[last] < MOST_STATEMENTS) {
                putStatement(last, lengths[last], sort, v);
                lengths[last]++;
            }
        }

        /** The place of the one added; its other facts are put one by one. */
        int addAdvice(int kind) {
            int place = Math.min(adviceCount, MOST_ADVICE - 1);
            putFact(place, KIND_FACT, kind);
            adviceCount = place + 1;
            return place;
        }

        boolean callsOnlyWhatIsThere() {
            for (int m = 0; m < methods; m++) {
                if (calledBy(m) >> methods != 0) {
                    return false;
                }
            }
            return true;
        }

        private int calledBy(int method) {
            int bits = 0;
            for (int i = 0; i < lengths[method]; i++) {
                int at = method * MOST_STATEMENTS + i;
                if (sorts[at] == CALL) {
                    bits |= 1 << operands[at];
                }
            }
            return bits;
        }

        /** Each round goes one call further, and no way without a circle has more calls than there are methods. */
        int reachedFrom(int method) {
            int reached = calledBy(method);
            for (int round = 1; round < methods; round++) {
                for (int m = 0; m < methods; m++) {
                    reached |= hasBit(reached, m) ? calledBy(m) : 0;
                }
            }
            return reached;
        }

        /** What class and method of an advice say of a method: no run can change it. */
        private boolean isAbout(int method, int advice) {
            int only = fact(advice, METHOD_FACT);
            return hasBit(CLASS_OR_BELOW[fact(advice, CLASS_FACT)], classes[method])
                    && (only == ANY_METHOD || only == method);
        }

        int known(int method, int advice) {
            int below = fact(advice, BELOW_FACT);
            int flow = fact(advice, FLOW_FACT);
            boolean flowsAlways = flow == NO_FLOW || flow == method;
            boolean flowsNever = !flowsAlways && (flow >= methods || !hasBit(reachedFrom(flow), method));
            if (!isAbout(method, advice) || below == 0 || flowsNever) {
                return NEVER;
            }
            return below == EVERY_ARGUMENT && flowsAlways ? ALWAYS : TESTED;
        }

        int testedAbout(int method) {
            int tested = 0;
            for (int a = 0; a < adviceCount; a++) {
                tested += known(method, a) == TESTED ? 1 : 0;
            }
            return tested;
        }

        int methodsNotNever(int advice) {
            int found = 0;
            for (int m = 0; m < methods; m++) {
                found += known(m, advice) == NEVER ? 0 : 1;
            }
            return found;
        }

        /** The advice, as bits, that is meant at a call while the methods in the bits of going go on. */
        int meantAt(int method, int x, int going) {
            int bits = 0;
            for (int a = 0; a < adviceCount; a++) {
                int flow = fact(a, FLOW_FACT);
                if (isAbout(method, a) && x < fact(a, BELOW_FACT) && (flow == NO_FLOW || hasBit(going, flow))) {
                    bits |= 1 << a;
                }
            }
            return bits;
        }
    }

    /** What can be undone, the oldest first. Each act keeps what was before it. */
    private static final class Acts {
        private static final int FACT = 0, EXCHANGE = 1, STATEMENT = 2, CLAZZ = 3;
        private static final int WIDTH = 5;

        private final int[] kept = new int[MOST_ACTS * WIDTH];
        private int size = 0;

        int size() {
            return size;
        }

        void forget() {
            size = 0;
        }

        void keepFact(int advice, int fact, int was) {
            keep(FACT, advice, fact, was, 0);
        }

        void keepExchange(int a, int b) {
            keep(EXCHANGE, a, b, 0, 0);
        }

        void keepStatement(int method, int i, int sort, int v) {
            keep(STATEMENT, method, i, sort, v);
        }

        void keepClass(int method, int was) {
            keep(CLAZZ, method, was, 0, 0);
        }

        private void keep(int act, int a, int b, int c, int d) {
            if (size >= MOST_ACTS) {
                System.arraycopy(kept, WIDTH, kept, 0, (MOST_ACTS - 1) * WIDTH);
                size = MOST_ACTS - 1;
            }
            int at = size * WIDTH;
            kept[at] = act;
            kept[at + 1] = a;
            kept[at + 2] = b;
            kept[at + 3] = c;
            kept[at + 4] = d;
            size++;
        }

        void takeBack(Weave weave) {
            if (size == 0) {
                return;
            }
            size--;
            int at = size * WIDTH;
            switch (kept[at]) {
                case FACT:
                    weave.putFact(kept[at + 1], kept[at + 2], kept[at + 3]);
                    break;
                case EXCHANGE:
                    weave.exchange(kept[at + 1], kept[at + 2]);
                    break;
                case STATEMENT:
                    weave.putStatement(kept[at + 1], kept[at + 2], kept[at + 3], kept[at + 4]);
                    break;
                default:
                    weave.putClass(kept[at + 1], kept[at + 2]);
                    break;
            }
        }
    }

    /**
     * One run at a time, made anew for each question. A failure is never caught, so once there is one it
     * stays to the end of the run; a run that is full goes out the same way, without emitting more.
     */
    private static final class Run {
        private final int[] emitted = new int[MOST_EMITTED];
        private final int[] callsOf = new int[MOST_METHODS];
        private Weave weave;
        private int size = 0;
        private int calls = 0;
        private int failure = 0;
        private int returned = 0;
        private boolean full = false;

        Run(Weave first) {
            weave = first;
        }

        void make(Weave of, int method, int argument) {
            weave = of;
            size = 0;
            calls = 0;
            failure = 0;
            full = false;
            for (int m = 0; m < MOST_METHODS; m++) {
                callsOf[m] = 0;
            }
            returned = enter(method, argument, 0);
        }

        boolean isFull() {
            return full;
        }

        boolean fails() {
            return !full && failure != 0;
        }

        int size() {
            return size;
        }

        int calls() {
            return calls;
        }

        int failure() {
            return failure;
        }

        int returned() {
            return failure != 0 ? NONE : returned;
        }

        int number(int i) {
            return i >= 0 && i < size ? emitted[i] : NONE;
        }

        int tests() {
            int tests = 0;
            for (int m = 0; m < weave.methods(); m++) {
                tests += callsOf[m] * weave.testedAbout(m);
            }
            return tests;
        }

        boolean endsAs(int otherSize, int otherFailure, int otherReturned) {
            return !full && size == otherSize && failure == otherFailure && returned() == otherReturned;
        }

        boolean beginsWith(Row row) {
            if (full || size < row.size()) {
                return false;
            }
            for (int i = 0; i < row.size(); i++) {
                if (emitted[i] != row.item(i)) {
                    return false;
                }
            }
            return true;
        }

        private boolean isStopped() {
            return full || failure != 0;
        }

        private void emit(int number) {
            if (size >= MOST_EMITTED) {
                full = true;
            }
            if (!full) {
                emitted[size] = number;
                size++;
            }
        }

        /** A call within a call has a lesser argument, so no more than ten are open at once. */
        private int enter(int method, int x, int goingBefore) {
            if (calls >= MOST_CALLS) {
                full = true;
                return 0;
            }
            calls++;
            callsOf[method]++;
            int going = goingBefore | 1 << method;
            return goOn(method, x, going, weave.meantAt(method, x, going), 0);
        }

        /** The body, with the meant advice about it that stands at a place or behind it. */
        private int goOn(int method, int x, int going, int meant, int from) {
            if (isStopped()) {
                return 0;
            }
            int place = from;
            while (place < MOST_ADVICE && !hasBit(meant, place)) {
                place++;
            }
            if (place >= MOST_ADVICE) {
                return goThrough(method, x, going);
            }
            int number = weave.fact(place, NUMBER_FACT);
            int kind = weave.fact(place, KIND_FACT);
            if (kind == AROUND) {
                return goAround(method, x, going, meant, place);
            }
            if (kind == BEFORE) {
                emit(number);
                return goOn(method, x, going, meant, place + 1);
            }
            int result = goOn(method, x, going, meant, place + 1);
            if (kind == AFTER || kind == (failure == 0 ? RETURNING : THROWING)) {
                emit(number);
            }
            return result;
        }

        private int goAround(int method, int x, int going, int meant, int place) {
            int number = weave.fact(place, NUMBER_FACT);
            int times = number % 3;
            int result = number;
            emit(number);
            for (int i = 0; i < times && !isStopped(); i++) {
                result = goOn(method, x, going, meant, place + 1) + 1;
            }
            if (!isStopped()) {
                emit(number + 100);
            }
            return result;
        }

        private int goThrough(int method, int x, int going) {
            int together = x;
            for (int i = 0; i < weave.length(method) && !isStopped(); i++) {
                int operand = weave.operand(method, i);
                switch (weave.sort(method, i)) {
                    case EMIT:
                        emit(operand);
                        break;
                    case CALL:
                        together += x > 0 ? enter(operand, x - 1, going) : 0;
                        break;
                    default:
                        failure = operand;
                        break;
                }
            }
            return together;
        }
    }

    /** Asks of advice, each answered by numbered bodies that leave their numbers in the trace. */
    private static final class Asks {
        private static final int SIZE_ASK = 0, MARK_ASK = 1;

        /** Of each kind the body that begins: its own, or that of the nearest kind that it is, too. */
        private static final int[] SIZE_BODIES = {10, 11, 12, 11, 13, 14};
        private static final int[] MARK_BODIES = {20, 21, 24, 22, 23, 23};

        private final int[] trace = new int[MOST_TRACED];
        private final Weave weave;
        private int size = 0;

        Asks(Weave asked) {
            weave = asked;
        }

        int traced(int i) {
            return i >= 0 && i < size ? trace[i] : NONE;
        }

        int answer(int advice, int what) {
            size = 0;
            return begin(what, advice);
        }

        private int begin(int what, int advice) {
            int kind = weave.fact(advice, KIND_FACT);
            return what == SIZE_ASK ? sizeBy(SIZE_BODIES[kind], advice) : markBy(MARK_BODIES[kind], advice);
        }

        private void leave(int body) {
            if (size < MOST_TRACED) {
                trace[size] = body;
                size++;
            }
        }

        /** Only bodies of AFTER kinds ask for the mark, and of marks only that of AROUND kinds asks back. */
        private int sizeBy(int body, int advice) {
            leave(body);
            switch (body) {
                case 11:
                    return sizeBy(10, advice) + begin(MARK_ASK, advice);
                case 12:
                    return -sizeBy(11, advice);
                case 13:
                    return sizeBy(10, advice) - 100;
                case 14:
                    return 2 * sizeBy(13, advice);
                default:
                    return weave.fact(advice, NUMBER_FACT);
            }
        }

        private int markBy(int body, int advice) {
            leave(body);
            switch (body) {
                case 21:
                    return markBy(20, advice) + weave.methodsNotNever(advice);
                case 22:
                    return markBy(21, advice) - 1000;
                case 23:
                    return markBy(20, advice) - begin(SIZE_ASK, advice);
                case 24:
                    return 2 * markBy(21, advice);
                default:
                    return advice;
            }
        }
    }
}
