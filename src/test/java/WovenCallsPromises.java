/** The document's promises, one by one: ordinary inputs, the edges that it names, wrong inputs. */
public final class WovenCallsPromises {
    private static final int NONE = -1000000, BAD = -1000001, STATE = -1000002, FULL = -1000003;
    private static final int NULL = -1000011, PLACE = -1000012, KIND = -1000013, SIZE = -1000014, STORE = -1000015;
    private static final int LOW = Integer.MIN_VALUE, HIGH = Integer.MAX_VALUE;
    /** One advice of each kind, in the order of the kinds. */
    private static final String KINDS = "m0e1;a1,4,6,10,6;r2,4,6,10,6;t3,4,6,10,6;o4,4,6,10,6;b5,4,6,10,6;";

    private static String part = "";
    private static int wrong = 0;

    private static void due(String call, int got, int want) {
        if (got != want) {
            wrong++;
            System.out.println(part + ": " + call + " answered " + got + ", due is " + want);
        }
    }

    private static void feed(WovenCalls x, String text) {
        for (int i = 0; i < text.length(); i++) x.feed(text.charAt(i));
    }

    private static WovenCalls woven(String text) {
        WovenCalls x = new WovenCalls();
        feed(x, text);
        int methods = x.weave();
        if (methods < 1) due("weave() of " + text, methods, 1);
        return x;
    }

    private static void fault(String text, int place, int number) {
        WovenCalls x = new WovenCalls();
        feed(x, text);
        due("weave() of " + text, x.weave(), -1000100 - place);
        due("fault() of " + text, x.fault(), number);
        due("count(5) of " + text, x.count(5), 0);
    }

    /** What a run emits, how it ends. */
    private static void runs(WovenCalls x, int m, int arg, int failure, int returned, int... out) {
        String call = "run(" + m + ", " + arg + ", ";
        due(call + "-1)", x.run(m, arg, -1), out.length);
        due(call + "-2)", x.run(m, arg, -2), failure);
        due(call + "-3)", x.run(m, arg, -3), returned);
        for (int i = 0; i < out.length; i++) due(call + i + ")", x.run(m, arg, i), out[i]);
        due(call + out.length + ")", x.run(m, arg, out.length), NONE);
    }

    private static void rowOf(WovenCalls x, int row, int lane, int... items) {
        due("row(" + row + ", " + lane + ", ..)", x.row(row, lane, items.length), items.length);
        for (int i = 0; i < items.length; i++) due("set(" + row + ", " + i + ", ..)", x.set(row, i, items[i]), items[i]);
    }

    private static void newObject() {
        part = "1 a new object";
        WovenCalls x = new WovenCalls();
        for (int what = 0; what <= 5; what++) due("count(" + what + ")", x.count(what), 0);
        due("status()", x.status(), 0);
        due("fault()", x.fault(), 0);
        due("trace(0)", x.trace(0), NONE);
        due("undo()", x.undo(), STATE);
        due("image(0)", x.image(0), STATE);
        due("run(0, 0, -1)", x.run(0, 0, -1), BAD);
        for (int row = 0; row < 8; row++) due("drop(" + row + ")", x.drop(row), NULL);
    }

    private static void row() {
        part = "2 row";
        WovenCalls x = new WovenCalls();
        due("row(0, 0, 40)", x.row(0, 0, 40), 40);
        due("row(7, 2, 0)", x.row(7, 2, 0), 0);
        due("count(0)", x.count(0), 2);
        due("row(-1, 0, 1)", x.row(-1, 0, 1), BAD);
        due("row(8, 0, 1)", x.row(8, 0, 1), BAD);
        due("row(0, -1, 1)", x.row(0, -1, 1), BAD);
        due("row(0, 3, 1)", x.row(0, 3, 1), BAD);
        due("row(0, 0, 41)", x.row(0, 0, 41), BAD);
        due("row(0, 3, -1)", x.row(0, 3, -1), BAD);
        due("row(LOW, LOW, LOW)", x.row(LOW, LOW, LOW), BAD);
        due("row(0, 0, -1)", x.row(0, 0, -1), SIZE);
        due("row(1, 0, LOW)", x.row(1, 0, LOW), SIZE);
        due("count(0)", x.count(0), 2);
        due("set(0, 39, 5)", x.set(0, 39, 5), 5);
        due("row(0, 0, 40)", x.row(0, 0, 40), 40);
        due("row(1, 0, 40)", x.row(1, 0, 40), 40);
        // a row made anew has 0 again: what it emits first is never 0, so it fits nothing
        WovenCalls one = woven("m0e1;b1,4,6,10,6;");
        due("row(0, 0, 1)", one.row(0, 0, 1), 1);
        due("fits(0, 0, 0, 0, 1)", one.fits(0, 0, 0, 0, 1), 0);
        WovenCalls y = woven("m0e5;b7,4,6,10,6;");
        rowOf(y, 0, 0, 7);
        due("fits(0, 0, 0, 0, 0)", y.fits(0, 0, 0, 0, 0), 1 << 4 | 1 << 5);
        due("row(0, 0, 1)", y.row(0, 0, 1), 1);
        due("fits(0, 0, 0, 0, 0)", y.fits(0, 0, 0, 0, 0), 0);
    }

    private static void set() {
        part = "3 set";
        WovenCalls x = new WovenCalls();
        x.row(0, 0, 3);
        x.row(1, 1, 3);
        x.row(2, 2, 3);
        due("set(0, 0, 127)", x.set(0, 0, 127), 127);
        due("set(0, 0, 128)", x.set(0, 0, 128), -128);
        due("set(0, 0, -129)", x.set(0, 0, -129), 127);
        due("set(0, 2, 256)", x.set(0, 2, 256), 0);
        due("set(1, 0, 32767)", x.set(1, 0, 32767), 32767);
        due("set(1, 0, 32768)", x.set(1, 0, 32768), -32768);
        due("set(1, 0, 65536)", x.set(1, 0, 65536), 0);
        due("set(2, 0, LOW)", x.set(2, 0, LOW), LOW);
        due("set(2, 0, HIGH)", x.set(2, 0, HIGH), HIGH);
        due("set(-1, 0, 1)", x.set(-1, 0, 1), BAD);
        due("set(8, 0, 1)", x.set(8, 0, 1), BAD);
        due("set(3, 0, 1)", x.set(3, 0, 1), NULL);
        due("set(3, -1, 1)", x.set(3, -1, 1), NULL);
        due("set(0, -1, 1)", x.set(0, -1, 1), PLACE);
        due("set(0, 3, 1)", x.set(0, 3, 1), PLACE);
        due("set(0, HIGH, 1)", x.set(0, HIGH, 1), PLACE);
    }

    private static void copy() {
        part = "4 copy";
        WovenCalls x = woven("m0e1e2e3e4;b9,4,0,0,6;");
        rowOf(x, 0, 0, 9, 1, 2, 3);
        rowOf(x, 1, 0, 0, 0, 0, 0);
        rowOf(x, 2, 1, 0, 0, 0, 0);
        due("copy(0, 1, 1, 0, 3)", x.copy(0, 1, 1, 0, 3), 3);
        due("set(1, 3, 4)", x.set(1, 3, 4), 4);
        due("fits(0, 0, 0, 1, 1)", x.fits(0, 0, 0, 1, 1), 1);
        // within one row: as they were ahead, in both directions
        rowOf(x, 3, 2, 1, 1, 2, 3, 0);
        due("copy(3, 1, 3, 0, 4)", x.copy(3, 1, 3, 0, 4), 4);
        due("set(3, 3, 4)", x.set(3, 3, 4), 4);
        due("copy(3, 0, 3, 1, 4)", x.copy(3, 0, 3, 1, 4), 4);
        due("set(3, 0, 9)", x.set(3, 0, 9), 9);
        due("fits(0, 0, 0, 3, 1)", x.fits(0, 0, 0, 3, 1), 2046);
        due("copy(0, 4, 1, 4, 0)", x.copy(0, 4, 1, 4, 0), 0);
        due("copy(-1, 0, 0, 0, 0)", x.copy(-1, 0, 0, 0, 0), BAD);
        due("copy(0, 0, 8, 0, 0)", x.copy(0, 0, 8, 0, 0), BAD);
        due("copy(7, 0, 8, 0, 0)", x.copy(7, 0, 8, 0, 0), BAD);
        due("copy(7, -1, 0, 0, 0)", x.copy(7, -1, 0, 0, 0), NULL);
        due("copy(0, 0, 7, 0, 0)", x.copy(0, 0, 7, 0, 0), NULL);
        due("copy(0, -1, 2, 0, 0)", x.copy(0, -1, 2, 0, 0), STORE);
        due("copy(0, -1, 1, 0, 1)", x.copy(0, -1, 1, 0, 1), PLACE);
        due("copy(0, 0, 1, -1, 1)", x.copy(0, 0, 1, -1, 1), PLACE);
        due("copy(0, 0, 1, 0, -1)", x.copy(0, 0, 1, 0, -1), PLACE);
        due("copy(0, 5, 1, 0, 0)", x.copy(0, 5, 1, 0, 0), PLACE);
        due("copy(0, 2, 1, 0, 3)", x.copy(0, 2, 1, 0, 3), PLACE);
        due("copy(0, 0, 1, 2, 3)", x.copy(0, 0, 1, 2, 3), PLACE);
        due("copy(0, HIGH, 1, 0, HIGH)", x.copy(0, HIGH, 1, 0, HIGH), PLACE);
        due("copy(0, 1, 1, 1, HIGH)", x.copy(0, 1, 1, 1, HIGH), PLACE);
    }

    private static void drop() {
        part = "5 drop";
        WovenCalls x = new WovenCalls();
        x.row(4, 1, 6);
        due("drop(4)", x.drop(4), 6);
        due("drop(4)", x.drop(4), NULL);
        due("set(4, 0, 0)", x.set(4, 0, 0), NULL);
        due("count(0)", x.count(0), 0);
        x.row(4, 1, 0);
        due("drop(4)", x.drop(4), 0);
        due("drop(-1)", x.drop(-1), BAD);
        due("drop(8)", x.drop(8), BAD);
    }

    private static void feeding() {
        part = "6 feed";
        WovenCalls x = new WovenCalls();
        due("feed(0)", x.feed(0), 1);
        due("feed(255)", x.feed(255), 2);
        due("feed(-1)", x.feed(-1), BAD);
        due("feed(256)", x.feed(256), BAD);
        for (int i = 3; i <= 130; i++) due("feed(109)", x.feed(109), i);
        due("feed(109)", x.feed(109), FULL);
        due("feed(256)", x.feed(256), BAD);
        due("count(5)", x.count(5), 130);
        due("weave()", x.weave(), -1000100);
        due("feed(109)", x.feed(109), 1);
    }

    private static void weaving() {
        part = "7 weave";
        due("one method", woven("m0;").count(1), 1);
        due("six methods", woven("m0;m1;m2;m3;m0;m1;").count(1), 6);
        due("two figures", woven("m00e01c00;").method(0, 20), 1);
        due("a call ahead of its method", woven("m0c1;m0;").count(1), 2);
        due("five of advice", woven(KINDS).count(2), 5);
        fault("", 0, 1);
        fault("a1,4,6,10,6;", 0, 1);
        fault("M0;", 0, 1);
        fault("m", 1, 1);
        fault("m;", 1, 1);
        fault("m 0;", 1, 1);
        fault("m0", 2, 1);
        fault("m0,", 2, 1);
        fault("m0 ;", 2, 1);
        fault("m0a1;", 2, 1);
        fault("m0;;", 3, 1);
        fault("m0;0", 3, 1);
        fault("m0;e1;", 3, 1);
        fault("m0e;", 3, 1);
        fault("m0ee;", 3, 1);
        fault("m000;", 1, 1);
        fault("m0e000;", 3, 1);
        fault("m0e123456789012345678901234567890;", 3, 1);
        fault("m0e1e2e3e4e5;", 10, 1);
        fault("m0e1e2e3e4c9;", 10, 1);
        fault("m0e1e2e3e4" + (char) 233, 10, 1);
        fault("m4;", 1, 2);
        fault("m99;", 1, 2);
        fault("m0e0;", 3, 2);
        fault("m0c6;", 3, 2);
        fault("m0f0;", 3, 2);
        fault("m0f10;", 3, 2);
        fault("m0;m0;m0;m0;m0;m0;m0;", 18, 3);
        fault("m0;m0;m0;m0;m0;m0;m", 18, 3);
        fault("m0c1;", 5, 4);
        fault("m0;m0c5;b1,4,6,10,6;", 20, 4);
        fault("m0c1;b", 6, 1);
        adviceFaults();
        weavingKeeps();
    }

    private static void adviceFaults() {
        fault("m0;b", 4, 1);
        fault("m0;b,", 4, 1);
        fault("m0;b1", 5, 1);
        fault("m0;b1;", 5, 1);
        fault("m0;b1,4,6,10;", 12, 1);
        fault("m0;b1,4,6,10,6,", 14, 1);
        fault("m0;b1,4,6,10,6", 14, 1);
        fault("m0;b1,4,6,10,6;m0;", 15, 1);
        fault("m0;b1,4,6,10,6;c", 15, 1);
        fault("m0;b0,4,6,10,6;", 4, 2);
        fault("m0;b100,4,6,10,6;", 4, 1);
        fault("m0;b1,5,6,10,6;", 6, 2);
        fault("m0;b1,4,7,10,6;", 8, 2);
        fault("m0;b1,4,6,11,6;", 10, 2);
        fault("m0;b1,4,6,10,7;", 13, 2);
        fault(KINDS + "o1,4,6,10,6;", KINDS.length(), 3);
        fault(KINDS + "x", KINDS.length(), 1);
        fault(KINDS + "m", KINDS.length(), 1);
        // of a seventh method behind advice the least fault is told
        fault("m0;m0;m0;m0;m0;m0;b1,4,6,10,6;m0;", 30, 1);
    }

    private static void weavingKeeps() {
        WovenCalls x = woven("m0e5;b7,4,6,10,6;");
        x.row(0, 0, 1);
        x.image(0);
        due("change(0, 0, 8)", x.change(0, 0, 8), 7);
        feed(x, "m0e6;x");
        due("weave() at fault", x.weave(), -1000105);
        due("count(4)", x.count(4), 1);
        runs(x, 0, 0, 0, 0, 8, 5);
        feed(x, "m1e6;m2;");
        due("weave()", x.weave(), 2);
        due("count(4)", x.count(4), 0);
        due("undo()", x.undo(), STATE);
        due("count(0)", x.count(0), 1);
        due("count(2)", x.count(2), 0);
        runs(x, 0, 0, 0, 0, 6);
        due("restore(0)", x.restore(0), 1);
        runs(x, 0, 0, 0, 0, 7, 5);
    }

    private static void faults() {
        part = "8 fault";
        WovenCalls x = new WovenCalls();
        due("fault()", x.fault(), 0);
        feed(x, "m4;");
        x.weave();
        due("fault()", x.fault(), 2);
        feed(x, "m0;");
        x.weave();
        due("fault() stays", x.fault(), 2);
        x.weave();
        due("fault()", x.fault(), 1);
    }

    private static void change() {
        part = "9 change";
        WovenCalls x = woven("m0e5;m0;b7,4,6,10,6;");
        due("change(0, 0, 99)", x.change(0, 0, 99), 7);
        due("change(0, 0, 1)", x.change(0, 0, 1), 99);
        due("change(0, 1, 0)", x.change(0, 1, 0), 10);
        runs(x, 0, 0, 0, 0, 5);
        due("change(0, 1, 10)", x.change(0, 1, 10), 0);
        runs(x, 0, 0, 0, 0, 1, 5);
        due("change(0, 2, 1)", x.change(0, 2, 1), 6);
        runs(x, 0, 0, 0, 0, 5);
        due("change(0, 2, 5)", x.change(0, 2, 5), 1);
        due("change(0, 2, 0)", x.change(0, 2, 0), 5);
        due("change(0, 2, 6)", x.change(0, 2, 6), 0);
        due("count(4)", x.count(4), 8);
        due("change to the same", x.change(0, 0, 1), 1);
        due("count(4)", x.count(4), 9);
        int[][] bad = {{-1, 0, 1}, {1, 0, 1}, {0, -1, 1}, {0, 3, 1}, {0, 0, 0}, {0, 0, 100}, {0, 1, -1}, {0, 1, 11},
            {0, 2, -1}, {0, 2, 7}, {LOW, LOW, LOW}, {HIGH, HIGH, HIGH}};
        for (int[] b : bad) due("change of a bad one", x.change(b[0], b[1], b[2]), BAD);
        due("count(4)", x.count(4), 9);
    }

    private static void become() {
        part = "10 become";
        WovenCalls x = woven("m0e5f3;a7,4,6,10,6;");
        runs(x, 0, 0, 3, NONE, 5, 7);
        due("become(0, 1)", x.become(0, 1), STATE);
        due("become(0, 2)", x.become(0, 2), 1);
        runs(x, 0, 0, 3, NONE, 5);
        due("become(0, 3)", x.become(0, 3), 2);
        runs(x, 0, 0, 3, NONE, 5, 7);
        due("become(0, 4)", x.become(0, 4), 3);
        runs(x, 0, 0, 3, NONE, 7, 5);
        due("become(0, 5)", x.become(0, 5), 4);
        runs(x, 0, 0, 3, NONE, 7, 5);
        due("count(4)", x.count(4), 4);
        due("become(0, 0)", x.become(0, 0), BAD);
        due("become(0, 6)", x.become(0, 6), BAD);
        due("become(1, 5)", x.become(1, 5), BAD);
        due("become(-1, 5)", x.become(-1, 5), BAD);
        due("count(4)", x.count(4), 4);
    }

    private static void swap() {
        part = "11 swap";
        WovenCalls x = woven("m0e9;b1,4,6,10,6;b2,0,6,9,6;a3,4,0,10,0;");
        due("swap(0, 2)", x.swap(0, 2), 3);
        runs(x, 0, 0, 0, 0, 2, 1, 9, 3);
        due("swap(2, 1)", x.swap(2, 1), 2);
        runs(x, 0, 0, 0, 0, 1, 2, 9, 3);
        int[] facts = {2, 0, 6, 9, 6};
        for (int i = 0; i < 5; i++) due("advice(2, " + i + ")", x.advice(2, i), facts[i]);
        due("kind(0)", x.kind(0), 1);
        due("swap(1, 1)", x.swap(1, 1), STATE);
        due("swap(3, 3)", x.swap(3, 3), BAD);
        due("swap(0, 3)", x.swap(0, 3), BAD);
        due("swap(-1, 0)", x.swap(-1, 0), BAD);
        due("count(4)", x.count(4), 2);
    }

    private static void state() {
        part = "12 state";
        WovenCalls x = woven("m0e5c1;m0f9;");
        due("state(0, 0, 1, 1)", x.state(0, 0, 1, 1), 0);
        due("state(0, 1, 2, 9)", x.state(0, 1, 2, 9), 1);
        due("state(1, 0, 0, 99)", x.state(1, 0, 0, 99), 2);
        runs(x, 0, 1, 9, NONE, 99);
        due("state of the same", x.state(1, 0, 0, 99), 0);
        due("state(1, 0, 2, 1)", x.state(1, 0, 2, 1), 0);
        due("state(1, 0, 0, 1)", x.state(1, 0, 0, 1), 2);
        due("state(1, 0, 1, 0)", x.state(1, 0, 1, 0), 0);
        due("count(4)", x.count(4), 7);
        int[][] bad = {{-1, 0, 0, 1}, {2, 0, 0, 1}, {0, -1, 0, 1}, {0, 2, 0, 1}, {1, 1, 0, 1}, {0, 0, -1, 1}, {0, 0, 3, 1},
            {0, 0, 0, 0}, {0, 0, 0, 100}, {0, 0, 1, -1}, {0, 0, 1, 2}, {0, 0, 2, 0}, {0, 0, 2, 10}, {HIGH, HIGH, HIGH, HIGH}};
        for (int[] b : bad) due("state of a bad one", x.state(b[0], b[1], b[2], b[3]), BAD);
        due("count(4)", x.count(4), 7);
    }

    private static void belong() {
        part = "13 belong";
        WovenCalls x = woven("m0e5;b7,1,6,10,6;");
        runs(x, 0, 0, 0, 0, 5);
        due("belong(0, 3)", x.belong(0, 3), 0);
        runs(x, 0, 0, 0, 0, 7, 5);
        due("belong(0, 3)", x.belong(0, 3), STATE);
        due("belong(0, 2)", x.belong(0, 2), 3);
        runs(x, 0, 0, 0, 0, 5);
        due("belong(0, 1)", x.belong(0, 1), 2);
        runs(x, 0, 0, 0, 0, 7, 5);
        due("belong(0, 0)", x.belong(0, 0), 1);
        due("belong(0, 4)", x.belong(0, 4), BAD);
        due("belong(0, -1)", x.belong(0, -1), BAD);
        due("belong(1, 0)", x.belong(1, 0), BAD);
        due("belong(-1, 0)", x.belong(-1, 0), BAD);
        due("count(4)", x.count(4), 4);
    }

    private static void undo() {
        part = "14 undo";
        WovenCalls x = woven("m0e5;m1;b7,4,6,10,6;a8,4,6,3,0;");
        x.change(0, 0, 9);
        x.change(1, 1, 4);
        x.change(1, 2, 6);
        x.become(0, 4);
        x.swap(0, 1);
        x.state(0, 0, 2, 4);
        x.belong(1, 2);
        due("undo()", x.undo(), 6);
        due("method(1, 0)", x.method(1, 0), 1);
        due("undo()", x.undo(), 5);
        due("method(0, 10)", x.method(0, 10), 0);
        due("method(0, 20)", x.method(0, 20), 5);
        due("undo()", x.undo(), 4);
        due("advice(0, 0)", x.advice(0, 0), 9);
        due("undo()", x.undo(), 3);
        due("kind(0)", x.kind(0), 5);
        due("undo()", x.undo(), 2);
        due("advice(1, 4)", x.advice(1, 4), 0);
        due("undo()", x.undo(), 1);
        due("advice(1, 3)", x.advice(1, 3), 3);
        due("undo()", x.undo(), 0);
        due("advice(0, 0)", x.advice(0, 0), 7);
        due("undo()", x.undo(), STATE);
        for (int v = 10; v <= 26; v++) x.change(0, 0, v);
        due("count(4) of seventeen", x.count(4), 16);
        for (int left = 15; left >= 0; left--) {
            due("undo()", x.undo(), left);
            due("advice(0, 0)", x.advice(0, 0), 10 + left);
        }
        due("undo(), the oldest forgotten", x.undo(), STATE);
        undoFarther();
    }

    private static void undoFarther() {
        WovenCalls x = woven("m0e1;m1e2e3;m1;a7,4,6,10,6;b8,4,6,3,0;o9,4,6,10,6;");
        x.state(1, 0, 1, 2);
        x.belong(2, 3);
        x.swap(2, 1);
        x.state(1, 0, 2, 5);
        x.state(1, 1, 2, 6);
        due("undo()", x.undo(), 4);
        due("method(1, 11)", x.method(1, 11), 0);
        due("method(1, 21)", x.method(1, 21), 3);
        due("undo()", x.undo(), 3);
        due("method(1, 10)", x.method(1, 10), 1);
        due("method(1, 20)", x.method(1, 20), 2);
        due("undo()", x.undo(), 2);
        for (int a = 0; a < 3; a++) due("advice(" + a + ", 0)", x.advice(a, 0), 7 + a);
        due("undo()", x.undo(), 1);
        due("method(2, 0)", x.method(2, 0), 1);
        due("undo()", x.undo(), 0);
        due("method(1, 10)", x.method(1, 10), 0);
        due("method(1, 20)", x.method(1, 20), 2);
        due("method(0, 20)", x.method(0, 20), 1);
    }

    private static void method() {
        part = "15 method";
        WovenCalls x = woven("m3e99c1f9c2;m0c3;m1;m2c1;m0f1c4;");
        int[] due0 = {3, 4, 14};
        for (int i = 0; i < 3; i++) due("method(0, " + i + ")", x.method(0, i), due0[i]);
        int[] sorts = {0, 1, 2, 1}, numbers = {99, 1, 9, 2};
        for (int i = 0; i < 4; i++) {
            due("method(0, 10 and i)", x.method(0, 10 + i), sorts[i]);
            due("method(0, 20 and i)", x.method(0, 20 + i), numbers[i]);
        }
        due("method(1, 2) comes round", x.method(1, 2), 10);
        due("method(2, 2)", x.method(2, 2), 0);
        due("method(4, 2) calls behind a failure", x.method(4, 2), 16);
        due("method(2, 10)", x.method(2, 10), NONE);
        due("method(4, 22)", x.method(4, 22), NONE);
        for (int what : new int[] {-1, 3, 9, 14, 19, 24, LOW, HIGH}) due("method(0, " + what + ")", x.method(0, what), BAD);
        due("method(-1, 0)", x.method(-1, 0), BAD);
        due("method(5, 0)", x.method(5, 0), BAD);
        due("a long way round", woven("m0c1;m0c2;m0c3;m0c4;m0c5;m0c0;").method(3, 2), 63);
    }

    private static void advice() {
        part = "16 advice";
        WovenCalls x = woven("m0;o99,3,5,0,4;b1,4,6,10,6;");
        int[] first = {99, 3, 5, 0, 4}, second = {1, 4, 6, 10, 6};
        for (int i = 0; i < 5; i++) {
            due("advice(0, " + i + ")", x.advice(0, i), first[i]);
            due("advice(1, " + i + ")", x.advice(1, i), second[i]);
        }
        due("advice(0, -1)", x.advice(0, -1), BAD);
        due("advice(0, 5)", x.advice(0, 5), BAD);
        due("advice(2, 0)", x.advice(2, 0), BAD);
        due("advice(-1, 0)", x.advice(-1, 0), BAD);
    }

    private static int ahead(String advice) {
        return woven("m3c1;m1c2;m2;" + advice).ahead(1, 0);
    }

    private static void ahead() {
        part = "17 ahead";
        due("always", ahead("b1,4,6,10,6;"), 1);
        due("its class", ahead("b1,1,6,10,6;"), 1);
        due("a class above", ahead("b1,0,6,10,6;"), 1);
        due("a class below", ahead("b1,3,6,10,6;"), 0);
        due("another class", ahead("b1,2,6,10,6;"), 0);
        due("its method", ahead("b1,4,1,10,6;"), 1);
        due("another method", ahead("b1,4,0,10,6;"), 0);
        due("a method that there is not", ahead("b1,4,5,10,6;"), 0);
        due("below nothing", ahead("b1,4,6,0,6;"), 0);
        due("below 9", ahead("b1,4,6,9,6;"), 2);
        due("below 1", ahead("b1,4,6,1,6;"), 2);
        due("flow is this", ahead("b1,4,6,10,1;"), 1);
        due("flow is this, below 3", ahead("b1,4,6,3,1;"), 2);
        due("flow reaches this", ahead("b1,4,6,10,0;"), 2);
        due("flow does not reach this", ahead("b1,4,6,10,2;"), 0);
        due("flow that there is not", ahead("b1,4,6,10,3;"), 0);
        due("flow far away", woven("m0c1;m0c2;m0;b1,4,2,10,0;").ahead(2, 0), 2);
        WovenCalls x = woven("m0;b1,4,6,10,6;");
        due("ahead(1, 0)", x.ahead(1, 0), BAD);
        due("ahead(0, 1)", x.ahead(0, 1), BAD);
        due("ahead(-1, 0)", x.ahead(-1, 0), BAD);
        due("ahead(0, -1)", x.ahead(0, -1), BAD);
    }

    private static void run() {
        part = "18 run";
        runs(woven("m0e5;"), 0, 9, 0, 9, 5);
        runs(woven("m0e5;b7,4,6,10,6;"), 0, 2, 0, 2, 7, 5);
        runs(woven("m0e5;a7,4,6,10,6;"), 0, 2, 0, 2, 5, 7);
        runs(woven("m0e5;r7,4,6,10,6;"), 0, 2, 0, 2, 5, 7);
        runs(woven("m0e5;t7,4,6,10,6;"), 0, 2, 0, 2, 5);
        runs(woven("m0e5;o7,4,6,10,6;"), 0, 2, 0, 3, 7, 5, 107);
        runs(woven("m0e5;o8,4,6,10,6;"), 0, 2, 0, 3, 8, 5, 5, 108);
        runs(woven("m0e5;o9,4,6,10,6;"), 0, 2, 0, 9, 9, 109);
        runs(woven("m0e5f3e6;b7,4,6,10,6;"), 0, 2, 3, NONE, 7, 5);
        runs(woven("m0e5f3e6;a7,4,6,10,6;"), 0, 2, 3, NONE, 5, 7);
        runs(woven("m0e5f3e6;r7,4,6,10,6;"), 0, 2, 3, NONE, 5);
        runs(woven("m0e5f3e6;t7,4,6,10,6;"), 0, 2, 3, NONE, 5, 7);
        runs(woven("m0e5f3e6;o7,4,6,10,6;"), 0, 2, 3, NONE, 7, 5);
        runs(woven("m0e5f3e6;o8,4,6,10,6;"), 0, 2, 3, NONE, 8, 5);
        runs(woven("m0e5f3e6;o9,4,6,10,6;"), 0, 2, 0, 9, 9, 109);
        part = "18 run, nested";
        runs(woven("m0e9;b1,4,6,10,6;a2,4,6,10,6;o4,4,6,10,6;r3,4,6,10,6;"), 0, 0, 0, 1, 1, 4, 9, 3, 104, 2);
        runs(woven("m0c1e8;m0e9f7;t1,4,6,10,6;a2,4,0,10,6;o4,4,1,10,6;r3,4,6,10,6;"), 0, 1, 7, NONE, 4, 9, 1, 2, 1);
        runs(woven("m0c1e8;m0f7;o3,4,1,10,6;"), 0, 1, 0, 4, 3, 103, 8);
        part = "18 run, calls";
        runs(woven("m0c1e1c1;m0e2;"), 0, 0, 0, 0, 1);
        runs(woven("m0c1e1c1;m0e2;"), 0, 3, 0, 7, 2, 1, 2);
        runs(woven("m0e1c0;b5,4,6,2,6;"), 0, 3, 0, 6, 1, 1, 5, 1, 5, 1);
        part = "18 run, flows";
        runs(woven("m0e1c1;m0e2c2;m0e3;b9,4,6,10,1;"), 0, 2, 0, 3, 1, 9, 2, 9, 3);
        runs(woven("m0c1c2;m0;m0e3;b9,4,2,10,1;"), 0, 2, 0, 4, 3);
        runs(woven("m0e3;b9,4,6,10,5;b8,4,5,10,6;"), 0, 2, 0, 2, 3);
        runs(woven("m0c1;m0e3;b9,4,1,10,0;"), 1, 2, 0, 2, 3);
        part = "18 run, classes";
        WovenCalls x = woven("m0e1;m1e1;m2e1;m3e1;b5,0,6,10,6;b6,1,6,10,6;b7,2,6,10,6;b8,3,6,10,6;b9,4,6,10,6;");
        runs(x, 0, 0, 0, 0, 5, 9, 1);
        runs(x, 1, 0, 0, 0, 5, 6, 9, 1);
        runs(x, 2, 0, 0, 0, 5, 7, 9, 1);
        runs(x, 3, 0, 0, 0, 5, 6, 8, 9, 1);
        runEdges();
    }

    private static void runEdges() {
        part = "18 run, edges";
        WovenCalls x = woven("m0c1c2e1e1;m0e1e1e1e1;m0e1e1e1e1;o2,4,1,10,6;o2,4,1,10,6;o2,4,1,10,6;o2,4,1,10,6;");
        due("run of a hundred numbers", x.run(0, 1, -1), FULL);
        due("run of a hundred numbers", x.run(0, 1, 0), FULL);
        due("a bad what goes ahead", x.run(0, 1, -6), BAD);
        x.state(0, 3, 2, 5);
        due("run of 99 numbers", x.run(0, 1, -1), 99);
        due("the last of them", x.run(0, 1, 98), 1);
        due("none behind it", x.run(0, 1, 99), NONE);
        due("its failure", x.run(0, 1, -2), 5);
        due("what it returns", x.run(0, 1, -3), NONE);
        due("none far away", x.run(0, 1, HIGH), NONE);
        due("300 calls", woven("m0c1;m0c2c2c1c2;m0c0;").run(0, 8, -4), 300);
        due("301 calls", woven("m0c3c3;m0c0c0;m0;m0c0c1c0;").run(0, 6, -4), FULL);
        x = woven("m0c1c1;m0;b1,4,1,10,0;b2,4,6,3,6;b3,4,1,10,1;b4,4,0,0,6;");
        due("tests of each call", x.run(0, 5, -5), 5);
        due("calls", x.run(0, 5, -4), 3);
        due("tests of one call", x.run(0, 0, -5), 1);
        int[][] bad = {{-1, 0, 0}, {2, 0, 0}, {0, -1, 0}, {0, 10, 0}, {0, 0, -6}, {0, 0, LOW}, {HIGH, HIGH, HIGH}};
        for (int[] b : bad) due("run of a bad one", x.run(b[0], b[1], b[2]), BAD);
    }

    private static void least() {
        part = "19 least";
        WovenCalls x = woven("m0c1;m0c2;m0f5;m0e1;m0c4c4c4c2;b1,4,6,10,6;");
        due("least(0)", x.least(0), 2);
        due("least(1)", x.least(1), 1);
        due("least(2)", x.least(2), 0);
        due("least(3)", x.least(3), NONE);
        due("least(4)", x.least(4), 1);
        due("least(-1)", x.least(-1), BAD);
        due("least(5)", x.least(5), BAD);
        due("by 9 alone", woven("m0f1;o3,4,0,9,6;").least(0), 9);
        // every run that would come to the failure is full before
        String most = "m0c1c2;m0e1e1e1e1;m0f2;o2,4,1,10,6;o2,4,1,10,6;o2,4,1,10,6;o2,4,1,10,6;";
        due("not full yet", woven(most).least(0), 1);
        due("full is no failure", woven(most + "o2,4,1,10,6;").least(0), NONE);
    }

    private static void needed() {
        part = "20 needed";
        WovenCalls x = woven("m0f4;b1,4,6,10,6;t2,4,6,5,6;r3,4,6,10,6;o3,4,6,2,6;");
        due("needed(0, 0)", x.needed(0, 0), 13);
        due("needed(0, 3)", x.needed(0, 3), 3);
        due("needed(0, 9)", x.needed(0, 9), 1);
        due("nothing changes", x.advice(0, 3), 10);
        due("count(4)", x.count(4), 0);
        // o1 and o4 give one more each, whichever is left out it is one less
        due("what it returns", woven("m0e1;o1,4,6,10,6;o4,4,6,10,6;").needed(0, 0), 3);
        // as many numbers, but another failure
        due("another failure", woven("m0c1f1;m0e5e6f2;o3,4,1,10,6;").needed(0, 1), 1);
        due("none at all behind one that never goes on", woven("m0f2;o3,4,6,10,6;a1,4,6,10,6;").needed(0, 1), 1);
        due("full without it", woven("m0c0c0c0c0;o3,4,0,10,6;").needed(0, 9), 1);
        due("full with it", woven("m0e1e1e1e1;o2,4,6,10,6;o2,4,6,10,6;o2,4,6,10,6;o2,4,6,10,6;o2,4,6,10,6;").needed(0, 0), FULL);
        due("needed(-1, 0)", x.needed(-1, 0), BAD);
        due("needed(1, 0)", x.needed(1, 0), BAD);
        due("needed(0, -1)", x.needed(0, -1), BAD);
        due("needed(0, 10)", x.needed(0, 10), BAD);
        due("without advice", woven("m0;").needed(0, 0), 0);
    }

    private static void fits() {
        part = "21 fits";
        WovenCalls x = woven("m0e5;b7,4,6,10,6;a8,4,6,10,6;b6,4,6,4,6;");
        rowOf(x, 0, 0, 7, 6, 5, 8);
        rowOf(x, 1, 1, 6);
        rowOf(x, 2, 2, 7, 6, 5, 8, 0);
        rowOf(x, 3, 0, 7, 5);
        x.row(4, 0, 0);
        due("kinds", x.fits(1, 0, 0, 0, 0), 1 << 1 | 1 << 2);
        due("kinds, about", x.fits(0, 0, 0, 3, 0), 0);
        due("kinds, beyond its below", x.fits(0, 0, 4, 3, 0), 1 << 4 | 1 << 5);
        due("belows", x.fits(2, 0, 3, 0, 1), 2047 - 15);
        due("belows", x.fits(2, 0, 3, 3, 1), 15);
        due("places", x.fits(2, 0, 0, 1, 2), 1);
        due("places, its own too", x.fits(2, 0, 0, 0, 2), 1 << 1 | 1 << 2);
        due("more than it emits", x.fits(2, 0, 0, 2, 1), 0);
        due("status()", x.status(), 0);
        due("missing", x.fits(0, 0, 0, 5, 0), NULL);
        due("status()", x.status(), 1);
        due("empty", x.fits(0, 0, 0, 4, 0), PLACE);
        due("status()", x.status(), 2);
        int[][] bad = {{-1, 0, 0, 5, 0}, {3, 0, 0, 5, 0}, {0, -1, 0, 5, 0}, {0, 1, 0, 5, 0}, {0, 0, -1, 5, 0},
            {0, 0, 10, 5, 0}, {0, 0, 0, -1, 0}, {0, 0, 0, 8, 0}, {0, 0, 0, 5, -1}, {0, 0, 0, 5, 3}};
        for (int[] b : bad) due("fits of a bad one", x.fits(b[0], b[1], b[2], b[3], b[4]), BAD);
        due("status()", x.status(), 2);
        due("nothing changes", x.kind(1), 1);
        due("nothing changes", x.advice(2, 3), 4);
        due("count(4)", x.count(4), 0);
        WovenCalls full = woven("m0e1e1e1e1;o2,4,6,10,6;o2,4,6,10,6;o2,4,6,10,6;o2,4,6,10,6;o2,4,6,10,6;");
        rowOf(full, 0, 0, 2);
        due("full ones do not fit", full.fits(1, 0, 0, 0, 0), 46);
        due("full ones do not fit", full.fits(1, 0, 0, 0, 1), 1);
        due("full ones do not fit", full.fits(1, 0, 0, 0, 2), 0);
        // a byte never is as great as what this one emits
        WovenCalls great = woven("m0;o99,4,6,10,6;");
        rowOf(great, 0, 1, 99, 199);
        great.row(1, 0, 2);
        great.set(1, 0, 99);
        due("set(1, 1, 199)", great.set(1, 1, 199), -57);
        due("shorts", great.fits(0, 0, 0, 0, 0), 16);
        due("bytes", great.fits(0, 0, 0, 1, 0), 0);
    }

    private static void drawn() {
        part = "22 drawn";
        WovenCalls x = new WovenCalls();
        due("drawn(0, 1, 0)", x.drawn(0, 1, 0), STATE);
        due("drawn(-1, 0, 9), no weave", x.drawn(-1, 0, 9), STATE);
        // X: 16807, 282475249, 1622650073: methods 1, 1, 1 of two; arguments 2100 by 6 is 0, 35309406 by 6 is 0, 202831259 by 6 is 5
        x = woven("m0e1;m0e2e3;");
        due("drawn(3, 1, 0)", x.drawn(3, 1, 0), 6);
        due("drawn(3, 1, 1)", x.drawn(3, 1, 1), 0);
        x = woven("m0c1;m0f5;t1,4,6,6,6;");
        due("drawn(3, 1, 0)", x.drawn(3, 1, 0), 3);
        due("drawn(3, 1, 1)", x.drawn(3, 1, 1), 3);
        // of one method, by arguments 0, 0, 5: emits one more than the argument
        x = woven("m0e1c0;");
        due("drawn(2, 1, 0)", x.drawn(2, 1, 0), 2);
        due("drawn(3, 1, 0)", x.drawn(3, 1, 0), 8);
        due("drawn(0, 1, 0)", x.drawn(0, 1, 0), 0);
        // by 5 this one is full
        x = woven("m0e1c0c0c0;a1,4,0,4,6;");
        due("drawn(3, 1, 0)", x.drawn(3, 1, 0), 4);
        due("drawn(20, 999999, 1)", x.drawn(20, 999999, 1), 0);
        int[][] bad = {{-1, 1, 0}, {21, 1, 0}, {0, 0, 0}, {0, 1000000, 0}, {0, 1, -1}, {0, 1, 2}, {LOW, LOW, LOW}};
        for (int[] b : bad) due("drawn of bad ones", x.drawn(b[0], b[1], b[2]), BAD);
    }

    private static void images() {
        part = "23, 24 image, restore";
        WovenCalls x = new WovenCalls();
        due("image(-1)", x.image(-1), BAD);
        due("image(1)", x.image(1), STATE);
        due("restore(0)", x.restore(0), STATE);
        x = woven("m0e5;b7,4,6,10,6;");
        due("restore(0)", x.restore(0), STATE);
        due("image(0)", x.image(0), 1);
        x.change(0, 0, 9);
        x.state(0, 0, 2, 3);
        due("image(1)", x.image(1), 1);
        due("acts stay", x.count(4), 2);
        x.belong(0, 2);
        due("restore(0)", x.restore(0), 1);
        due("no act", x.count(4), 0);
        due("undo()", x.undo(), STATE);
        runs(x, 0, 0, 0, 0, 7, 5);
        x.change(0, 0, 44);
        due("restore(0) again", x.restore(0), 1);
        runs(x, 0, 0, 0, 0, 7, 5);
        due("restore(1)", x.restore(1), 1);
        runs(x, 0, 0, 3, NONE, 9);
        due("method(0, 0)", x.method(0, 0), 0);
        due("image(2)", x.image(2), BAD);
        due("restore(2)", x.restore(2), BAD);
        due("restore(-1)", x.restore(-1), BAD);
    }

    private static void kinds() {
        part = "25 kind";
        WovenCalls x = woven(KINDS);
        for (int a = 0; a < 5; a++) due("kind(" + a + ")", x.kind(a), a + 1);
        due("kind(-1)", x.kind(-1), BAD);
        due("kind(5)", x.kind(5), BAD);
        part = "26 as";
        int[][] are = {{0, 1}, {0, 1, 2}, {0, 1, 3}, {0, 4}, {0, 4, 5}};
        for (int a = 0; a < 5; a++) {
            for (int kind = 0; kind <= 5; kind++) {
                boolean is = false;
                for (int k : are[a]) is |= k == kind;
                due("as(" + a + ", " + kind + ")", x.as(a, kind), is ? a : KIND);
                due("status()", x.status(), is ? 0 : 3);
            }
        }
        x.as(0, 5);
        due("as(0, 6)", x.as(0, 6), BAD);
        due("as(0, -1)", x.as(0, -1), BAD);
        due("as(5, 0)", x.as(5, 0), BAD);
        due("status()", x.status(), 3);
    }

    private static void asks(WovenCalls x, int advice, int what, int answer, int... bodies) {
        due("ask(" + advice + ", " + what + ")", x.ask(advice, what), answer);
        for (int i = 0; i < bodies.length; i++) due("trace(" + i + ") of ask(" + advice + ", " + what + ")", x.trace(i), bodies[i]);
        due("trace behind its end", x.trace(bodies.length), NONE);
    }

    private static void asked() {
        part = "27 ask, 28 trace";
        // not never of: both, the first, the second, none, none (which counts for none of those that ask not)
        WovenCalls x = woven("m0e1;m1;a31,4,6,10,6;r32,4,0,10,6;t33,1,6,5,6;o34,4,6,0,6;b35,4,6,10,5;");
        asks(x, 0, 0, 31 + 0 + 2, 11, 10, 21, 20);
        asks(x, 0, 1, 0 + 2, 21, 20);
        asks(x, 1, 0, -(32 + 2 * (1 + 1)), 12, 11, 10, 24, 21, 20);
        asks(x, 1, 1, 2 * (1 + 1), 24, 21, 20);
        asks(x, 2, 0, 33 + (2 + 1 - 1000), 11, 10, 22, 21, 20);
        asks(x, 2, 1, 2 + 1 - 1000, 22, 21, 20);
        asks(x, 3, 0, 34 - 100, 13, 10);
        asks(x, 3, 1, 3 - (34 - 100), 23, 20, 13, 10);
        asks(x, 4, 0, 2 * (35 - 100), 14, 13, 10);
        asks(x, 4, 1, 4 - 2 * (35 - 100), 23, 20, 14, 13, 10);
        due("ask(5, 0)", x.ask(5, 0), BAD);
        due("ask(0, 2)", x.ask(0, 2), BAD);
        due("ask(0, -1)", x.ask(0, -1), BAD);
        due("ask(-1, 0)", x.ask(-1, 0), BAD);
        due("the trace stays", x.trace(0), 23);
        due("trace(-1)", x.trace(-1), NONE);
        due("trace(LOW)", x.trace(LOW), NONE);
        due("trace(HIGH)", x.trace(HIGH), NONE);
    }

    private static void counts() {
        part = "29 count";
        WovenCalls x = woven("m0e1e2;m1;m2f3;a31,4,6,10,6;r32,4,0,10,6;");
        x.row(3, 0, 0);
        x.row(5, 0, 1);
        x.swap(0, 1);
        feed(x, "m0;m");
        int[] dues = {2, 3, 2, 3, 1, 4};
        for (int what = 0; what <= 5; what++) due("count(" + what + ")", x.count(what), dues[what]);
        due("count(-1)", x.count(-1), BAD);
        due("count(6)", x.count(6), BAD);
    }

    private static void statuses() {
        part = "30 status";
        WovenCalls x = woven(KINDS);
        due("status()", x.status(), 0);
        x.set(0, 0, 0);
        due("status() of NULL", x.status(), 1);
        x.row(8, 0, 0);
        x.set(8, 0, 0);
        x.copy(0, 0, 8, 0, 0);
        x.drop(8);
        x.as(9, 0);
        x.fits(9, 0, 0, 0, 0);
        x.swap(1, 1);
        x.run(0, 0, 0);
        x.weave();
        due("status() stays", x.status(), 1);
        x.row(0, 0, 2);
        due("status() of none", x.status(), 0);
        x.row(0, 0, -1);
        due("status() of SIZE", x.status(), 4);
        x.set(0, 0, 1);
        due("status() of none", x.status(), 0);
        x.set(0, 2, 1);
        due("status() of PLACE", x.status(), 2);
        x.as(0, 1);
        due("status() of none", x.status(), 0);
        x.as(0, 2);
        due("status() of KIND", x.status(), 3);
        x.fits(0, 0, 0, 0, 0);
        due("status() of none", x.status(), 0);
        x.row(1, 1, 2);
        x.copy(0, 0, 1, 0, 1);
        due("status() of STORE", x.status(), 5);
        x.copy(0, 0, 0, 1, 1);
        due("status() of none", x.status(), 0);
        x.drop(7);
        due("status() of NULL", x.status(), 1);
        x.drop(0);
        due("status() of none", x.status(), 0);
    }

    public static void main(String[] args) {
        newObject();
        row();
        set();
        copy();
        drop();
        feeding();
        weaving();
        faults();
        change();
        become();
        swap();
        state();
        belong();
        undo();
        method();
        advice();
        ahead();
        run();
        least();
        needed();
        fits();
        drawn();
        images();
        kinds();
        asked();
        counts();
        statuses();
        System.out.println(wrong == 0 ? "all promises are kept" : wrong + " answers are not as due");
        if (wrong != 0) System.exit(1);
    }
}
