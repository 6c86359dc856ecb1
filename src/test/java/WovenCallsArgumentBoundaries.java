/** The promises, one by one: of each argument the last number that is taken and the first that is refused. */
public final class WovenCallsArgumentBoundaries {
    private static final int NONE = Played.NONE, BAD = Played.BAD, STATE = Played.STATE, FULL = Played.FULL;
    private static final int NULL = Played.NULL, PLACE = Played.PLACE, KIND = Played.KIND, SIZE = Played.SIZE, STORE = Played.STORE;
    private static final int LOW = Played.LOW, HIGH = Played.HIGH;

    private static final String[] NEW = {};
    /** Two methods, the first of two statements, the second of one, and two of advice, a BEFORE and an AFTER. */
    private static final String[] TWO = {"woven m1e5c1;m2f3;b7,4,6,10,6;a8,1,0,5,1;", "row 0 0 1", "set 0 0 7"};
    private static final String[] MOST = {"woven " + "m0e1e1e1e1;".repeat(6) + "b1,4,6,10,6;".repeat(5), "row 0 0 1"};
    private static final String[] LEAST = {"woven m0;", "row 0 0 1"};

    /** Each call by the numbers of methods there are. */
    private static void ofMethods(String... calls) {
        for (String call : calls) {
            Played.bounds(TWO, call, 0, 1);
            Played.bounds(MOST, call, 0, 5);
            for (int v = -1; v <= 6; v++) Played.scene("no METHODS", call.replace("@", "" + v), BAD);
        }
    }

    private static void ofAdvice(String... calls) {
        for (String call : calls) {
            Played.bounds(TWO, call, 0, 1);
            Played.bounds(MOST, call, 0, 4);
            for (int v = -1; v <= 5; v++) {
                Played.scene("no ADVICE", call.replace("@", "" + v), BAD);
                Played.scene("no ADVICE", "woven m0;", 1, call.replace("@", "" + v), BAD);
            }
        }
    }

    private static void newObject() {
        for (int row = 0; row <= 7; row++) Played.scene("ROWS are missing at first", "drop " + row, NULL, "status", 1);
        for (int what = 0; what <= 5; what++) Played.scene("nothing at first", "count " + what, 0, "status", 0, "fault", 0);
        Played.scene("no WEAVE", "image 0", STATE, "image 1", STATE, "restore 0", STATE, "restore 1", STATE, "undo", STATE,
            "drawn 0 1 0", STATE, "run 0 0 -1", BAD, "least 0", BAD, "needed 0 0", BAD, "method 0 0", BAD, "kind 0", BAD);
    }

    private static void row() {
        Played.bounds(NEW, "row @ 0 1", 0, 7);
        Played.bounds(NEW, "row 0 @ 1", 0, 2);
        Played.bounds(NEW, "row 0 0 @", 0, 40, SIZE, BAD);
        Played.bounds(NEW, "row 7 2 @", 0, 40, SIZE, BAD);
        Played.bounds(TWO, "row 0 1 @", 0, 40, SIZE, BAD);
        for (int n = 0; n <= 40; n++) Played.scene("0 to 40 ITEMS", "row 3 1 " + n, n, "count 0", 1, "drop 3", n, "count 0", 0);
        Played.scene("BAD ahead of SIZE", "row 8 0 -1", BAD, "row -1 0 -1", BAD, "row 0 3 -1", BAD, "row 0 -1 -1", BAD,
            "row 0 0 -1", SIZE, "status", 4, "count 0", 0);
        Played.scene("in place of what is there", "row 0 0 40", 40, "row 0 2 1", 1, "count 0", 1, "set 0 1 5", PLACE,
            "set 0 0 1000", 1000, "row 0 1 0", 0, "set 0 0 5", PLACE, "row 0 1 40", 40, "set 0 39 40000", -25536, "drop 0", 40);
        Played x = new Played();
        for (int r = 0; r <= 7; r++) x.due("ROWS 0 .. 7", "row " + r + " 0 0", 0);
        x.due("ROWS 0 .. 7", "count 0", 8);
        x.due("no more ROWS", "row 8 0 0", BAD);
        zeros();
    }

    /** All items but one are set to what a run emits: then the one that is 0 keeps the row from fitting. */
    private static void zeros() {
        for (int zero = -1; zero < 40; zero++) {
            for (String anew : new String[] {"row 0 0 40", "drop 0"}) {
                Played x = new Played("woven m0c1c1c1c1;m0c2c2e1e1;m0e1e1e1e1;b1,4,0,10,6;", "row 0 0 40");
                for (int i = 0; i < 40; i++) x.call("set 0 " + i + " 1");
                x.due("all are 1", "fits 0 0 2 0 1", 2047);
                x.due("made anew", anew, 40);
                x.due("made anew", "row 0 0 40", 40);
                for (int i = 0; i < 40; i++) if (i != zero) x.call("set 0 " + i + " 1");
                x.due("ITEMS are 0 at first, " + zero, "fits 0 0 2 0 1", zero < 0 ? 2047 : 0);
            }
        }
    }

    private static void set() {
        Played.bounds(new String[] {"row 0 0 40"}, "set 0 @ 1", 0, 39, PLACE, PLACE);
        Played.bounds(new String[] {"row 7 2 1"}, "set 7 @ 1", 0, 0, PLACE, PLACE);
        String[] all = new String[8];
        for (int r = 0; r <= 7; r++) all[r] = "row " + r + " 0 1";
        Played.bounds(all, "set @ 0 1", 0, 7);
        Played.scene("no ITEMS", "row 0 0 0", 0, "set 0 0 1", PLACE, "set 0 -1 1", PLACE, "status", 2);
        Played.scene("NULL ahead of PLACE", "set 0 -1 1", NULL, "set 7 40 1", NULL, "status", 1, "set 8 -1 1", BAD, "status", 1);
        int[][] lanes = {
            {127, 127}, {128, -128}, {-128, -128}, {-129, 127}, {255, -1}, {256, 0}, {-256, 0}, {-1, -1}, {HIGH, -1}, {LOW, 0}};
        for (int[] v : lanes) Played.scene("bytes", "row 0 0 1", 1, "set 0 0 " + v[0], v[1], "status", 0);
        int[][] shorts = {{32767, 32767}, {32768, -32768}, {-32768, -32768}, {-32769, 32767}, {65535, -1}, {65536, 0}, {-1, -1},
            {HIGH, -1}, {LOW, 0}, {128, 128}, {-129, -129}};
        for (int[] v : shorts) Played.scene("shorts", "row 0 1 1", 1, "set 0 0 " + v[0], v[1]);
        for (int v : new int[] {LOW, LOW + 1, -32769, -1, 0, 1, 32768, 65536, HIGH - 1, HIGH}) {
            Played.scene("ints", "row 0 2 1", 1, "set 0 0 " + v, v);
        }
        Played.scene("what it is then is kept", "woven m0e5;b1,4,0,0,6;", 1, "row 0 0 1", 1, "set 0 0 261", 5, "fits 0 0 0 0 1", 1,
            "row 1 1 1", 1, "set 1 0 65541", 5, "fits 0 0 0 1 1", 1, "row 2 2 1", 1, "set 2 0 261", 261, "fits 0 0 0 2 1", 0);
    }

    /** Items from 1 to 99 are looked at one by one: copied into a row of their own and held against a run. */
    private static void holds(String sentence, Played x, int row, int... items) {
        x.due(sentence, "woven m0e1;b1,4,0,0,6;", 1);
        x.due(sentence, "row 7 0 1", 1);
        for (int i = 0; i < items.length; i++) {
            x.due(sentence, "copy " + row + " " + i + " 7 0 1", 1);
            x.call("state 0 0 0 " + items[i]);
            Played.hold(sentence + ", item " + i + " is " + items[i], x.call("fits 0 0 0 7 1") & 1, 1);
        }
        x.due(sentence, "drop " + row, items.length);
    }

    private static Played counted(int... sizes) {
        Played x = new Played();
        for (int r = 0; r < sizes.length; r++) {
            x.call("row " + r + " 0 " + sizes[r]);
            for (int i = 0; i < sizes[r]; i++) x.call("set " + r + " " + i + " " + (1 + i + r * 40));
        }
        return x;
    }

    /** Copies within a row of 40, or from it to another, and holds all items of both against what is due. */
    private static void copied(int i, int b, int j, int n) {
        int[][] due = new int[2][40];
        for (int k = 0; k < 80; k++) due[k / 40][k % 40] = 1 + k;
        System.arraycopy(due[0].clone(), i, due[b], j, n);
        for (int row = 0; row <= 1; row++) {
            Played x = counted(40, 40);
            x.due("copy", "copy 0 " + i + " " + b + " " + j + " " + n, n);
            holds("copy 0 " + i + " " + b + " " + j + " " + n, x, row, due[row]);
        }
    }

    private static void copy() {
        for (int b = 0; b <= 1; b++) {
            copied(0, b, 0, 40);
            copied(0, b, 1, 39);
            copied(1, b, 0, 39);
            copied(0, b, 39, 1);
            copied(39, b, 0, 1);
            copied(10, b, 15, 20);
            copied(15, b, 10, 20);
            copied(40, b, 40, 0);
            copied(0, b, 0, 0);
        }
        String[] rows = {"row 0 0 4", "row 1 0 3", "row 2 1 4", "row 3 0 0"};
        for (int from = 0; from <= 1; from++) {
            int size = 4 - from, other = 4 - (1 - from);
            String of = "copy " + from + " ", to = " " + (1 - from) + " ";
            for (int n = 0; n <= 3; n++) {
                Played.bounds(rows, of + "@" + to + "0 " + n, 0, size - n, PLACE, PLACE);
                Played.bounds(rows, of + "0" + to + "@ " + n, 0, other - n, PLACE, PLACE);
            }
            for (int at = 0; at <= 3; at++) {
                Played.bounds(rows, of + at + to + "0 @", 0, Math.min(size - at, other), PLACE, PLACE);
                Played.bounds(rows, of + "0" + to + at + " @", 0, Math.min(size, other - at), PLACE, PLACE);
            }
        }
        String[] all = new String[8];
        for (int r = 0; r <= 7; r++) all[r] = "row " + r + " 1 1";
        Played.bounds(all, "copy @ 0 0 0 0", 0, 7);
        Played.bounds(all, "copy 0 0 @ 0 0", 0, 7);
        for (int r : new int[] {-1, 8, LOW, HIGH}) {
            Played.scene("BAD ahead of NULL", "copy " + r + " 0 0 0 0", BAD, "copy 0 0 " + r + " 0 0", BAD, "copy 7 0 7 0 0", NULL);
        }
        Played.scene("no ITEMS", "row 3 0 0", 0, "copy 3 0 3 0 0", 0, "copy 3 0 3 0 1", PLACE, "copy 3 1 3 0 0", PLACE,
            "copy 3 0 3 1 0", PLACE, "copy 3 0 3 0 -1", PLACE, "status", 2);
        Played.scene("sums that wrap around", "row 0 0 4", 4, "copy 0 1 0 0 " + HIGH, PLACE, "copy 0 " + HIGH + " 0 0 " + HIGH, PLACE,
            "copy 0 0 0 " + HIGH + " 1", PLACE, "copy 0 " + HIGH + " 0 0 1", PLACE, "copy 0 " + LOW + " 0 0 " + LOW, PLACE,
            "copy 0 0 0 " + LOW + " 4", PLACE, "copy 0 4 0 4 " + LOW, PLACE);
        Played.scene("NULL, STORE, PLACE", "row 0 0 4", 4, "row 1 1 4", 4, "row 2 2 4", 4, "copy 0 0 3 0 9", NULL, "copy 3 9 0 0 0", NULL,
            "copy 3 -1 3 -1 -1", NULL, "copy 0 0 1 0 9", STORE, "copy 1 -1 2 0 0", STORE, "copy 2 0 0 0 0", STORE, "status", 5,
            "copy 0 0 0 0 5", PLACE, "drop 1", 4, "copy 0 0 1 0 9", NULL);
    }

    private static void drop() {
        String[] all = new String[8];
        for (int r = 0; r <= 7; r++) all[r] = "row " + r + " 2 " + r * 5;
        Played.bounds(all, "drop @", 0, 7);
        Played x = new Played(all);
        for (int r = 0; r <= 7; r++) {
            x.due("how many ITEMS it had", "drop " + r, r * 5);
            x.due("missing from now on", "drop " + r, NULL);
            x.due("missing from now on", "set " + r + " 0 1", NULL);
            x.due("missing from now on", "count 0", 7 - r);
        }
    }

    private static void acts() {
        ofAdvice("change @ 0 1", "change @ 1 1", "change @ 2 1", "become @ 3", "swap @ 0", "swap 0 @");
        for (String[] setup : new String[][] {TWO, MOST}) {
            Played.bounds(setup, "change 0 @ 1", 0, 2);
            Played.bounds(setup, "change 0 0 @", 1, 99);
            Played.bounds(setup, "change 0 1 @", 0, 10);
            Played.bounds(setup, "change 0 2 @", 0, 6);
            Played.bounds(setup, "become 0 @", 1, 5);
            Played.bounds(setup, "become 1 @", 1, 5);
            Played.bounds(setup, "belong 0 @", 0, 3);
        }
        for (int a = 0; a <= 4; a++) {
            for (int b = 0; b <= 4; b++) {
                new Played(MOST).due("from the one to the other", "swap " + a + " " + b, a == b ? STATE : Math.abs(a - b) + 1);
            }
        }
        Played.scene("BAD ahead of STATE", "swap 0 0", BAD, "woven m0;", 1, "swap 0 0", BAD, "woven m0;b1,4,6,10,6;", 1,
            "swap 0 0", STATE, "swap 1 1", BAD, "swap -1 -1", BAD, "become 1 5", BAD, "become 0 5", STATE, "become 0 6", BAD,
            "become 0 0", BAD, "belong 0 0", STATE, "belong 1 0", BAD, "belong 0 4", BAD, "belong 0 -1", BAD, "count 4", 0);
        for (int kind = 1; kind <= 5; kind++) {
            for (int then = 1; then <= 5; then++) {
                Played.scene("what it was; STATE: it is that", "woven m0;" + "artob".charAt(kind - 1) + "1,4,6,10,6;", 1,
                    "become 0 " + then, kind == then ? STATE : kind, "kind 0", then, "count 4", kind == then ? 0 : 1);
            }
        }
        for (int clazz = 0; clazz <= 3; clazz++) {
            for (int then = 0; then <= 3; then++) {
                Played.scene("what it was; STATE: it is that", "woven m" + clazz + ";", 1, "belong 0 " + then,
                    clazz == then ? STATE : clazz, "method 0 0", then, "count 4", clazz == then ? 0 : 1);
            }
        }
        Played.scene("what it was", "woven m0;b1,4,6,10,6;", 1, "change 0 0 99", 1, "change 0 0 1", 99, "change 0 1 0", 10,
            "change 0 1 10", 0, "change 0 2 0", 6, "change 0 2 6", 0, "change 0 2 6", 6, "count 4", 7);
        statements();
    }

    private static void statements() {
        ofMethods("belong @ 3", "state @ 0 0 1");
        Played.bounds(TWO, "state 0 @ 0 1", 0, 1);
        Played.bounds(TWO, "state 1 @ 0 1", 0, 0);
        Played.bounds(MOST, "state 5 @ 0 1", 0, 3);
        Played.bounds(TWO, "state 0 0 @ 1", 0, 2);
        Played.bounds(TWO, "state 0 0 0 @", 1, 99);
        Played.bounds(TWO, "state 0 0 1 @", 0, 1);
        Played.bounds(MOST, "state 0 0 1 @", 0, 5);
        Played.bounds(LEAST, "method 0 @", 0, 2);
        Played.bounds(TWO, "state 1 0 2 @", 1, 9);
        for (int i = -1; i <= 4; i++) new Played(LEAST).due("no statements", "state 0 " + i + " 0 1", BAD);
        Played.scene("its sort as it was", "woven m0e1c0f1;", 1, "state 0 0 2 9", 0, "state 0 1 0 99", 1, "state 0 2 1 0", 2,
            "state 0 0 1 0", 2, "method 0 10", 1, "method 0 20", 0, "method 0 11", 0, "method 0 21", 99, "method 0 12", 1,
            "method 0 22", 0, "count 3", 3, "count 4", 4);
    }

    private static void looks() {
        ofMethods("method @ 0", "method @ 1", "method @ 2", "method @ 10", "method @ 23");
        for (int n = 0; n <= 4; n++) {
            Played x = new Played("woven m3" + "f7".repeat(n) + ";");
            for (int what = -2; what <= 35; what++) {
                boolean sort = what >= 10 && what <= 13, number = what >= 20 && what <= 23;
                int due = what == 0 ? 3 : what == 1 ? n : what == 2 ? 0
                    : !sort && !number ? BAD : what % 10 >= n ? NONE : sort ? 2 : 7;
                x.due("of a METHOD with " + n + " statements", "method 0 " + what, due);
            }
            for (int what : new int[] {LOW, HIGH, -10, -20, 100, 110, 120}) x.due("BAD", "method 0 " + what, BAD);
        }
        ofAdvice("advice @ 0", "advice @ 4", "ahead 0 @", "kind @", "as @ 0", "ask @ 0", "ask @ 1");
        ofMethods("ahead @ 0");
        Played.bounds(TWO, "advice 0 @", 0, 4);
        Played.bounds(MOST, "advice 4 @", 0, 4);
        Played.bounds(TWO, "as 0 @", 0, 5);
        Played.bounds(MOST, "as 4 @", 0, 5);
        Played.bounds(TWO, "ask 0 @", 0, 1);
        Played.bounds(TWO, "ask 1 @", 0, 1);
        Played.bounds(NEW, "count @", 0, 5);
        Played.bounds(MOST, "count @", 0, 5);
    }

    private static void runs() {
        ofMethods("run @ 0 -1", "run @ 9 0", "least @", "needed @ 0");
        for (String[] setup : new String[][] {TWO, MOST, LEAST}) {
            Played.bounds(setup, "run 0 @ -1", 0, 9);
            Played.bounds(setup, "run 0 0 @", -5, HIGH);
            Played.bounds(setup, "needed 0 @", 0, 9);
            Played.bounds(setup, "drawn @ 1 0", 0, 20);
            Played.bounds(setup, "drawn 20 @ 1", 1, 999999);
            Played.bounds(setup, "drawn 20 1 @", 0, 1);
            Played.bounds(setup, "drawn 0 @ 0", 1, 999999);
            Played.bounds(setup, "image @", 0, 1);
        }
        Played.scene("number what that is emitted", "woven m0e5e6;", 1, "run 0 0 0", 5, "run 0 0 1", 6, "run 0 0 2", NONE,
            "run 0 0 98", NONE, "run 0 0 99", NONE, "run 0 0 " + HIGH, NONE, "run 0 0 -6", BAD, "run 0 0 " + LOW, BAD);
        ofAdvice("fits @ 0 0 0 0", "fits @ 0 0 0 1", "fits @ 0 0 0 2");
        Played.bounds(TWO, "fits 0 @ 0 0 0", 0, 1);
        Played.bounds(MOST, "fits 0 @ 0 0 0", 0, 5);
        Played.bounds(TWO, "fits 0 0 @ 0 0", 0, 9);
        Played.bounds(TWO, "fits 0 0 0 @ 0", 0, 7);
        Played.bounds(TWO, "fits 0 0 0 0 @", 0, 2);
        Played.scene("BAD, NULL, PLACE", "woven m0e5;b7,4,6,10,6;", 1, "fits 0 0 0 0 0", NULL, "status", 1, "fits 0 0 0 0 3", BAD,
            "fits 0 0 10 0 0", BAD, "fits 0 1 0 0 0", BAD, "fits 1 0 0 0 0", BAD, "fits 0 0 0 8 0", BAD, "status", 1, "row 0 0 0", 0,
            "fits 0 0 0 0 0", PLACE, "status", 2, "fits 0 0 0 0 1", PLACE, "fits 0 0 0 0 2", PLACE, "fits 0 0 0 0 -1", BAD, "status", 2,
            "row 0 0 1", 1, "fits 0 0 0 0 2", 0, "status", 0, "drop 0", 1, "fits 0 0 0 0 2", NULL, "status", 1);
        images();
    }

    private static void images() {
        Played.bounds(NEW, "image @", 0, 1);
        Played.bounds(NEW, "restore @", 0, 1);
        for (int k = 0; k <= 1; k++) {
            int other = 1 - k;
            Played.scene("IMAGES 0, 1", "image " + k, STATE, "restore " + k, STATE, "woven m4;", -1000101, "image " + k, STATE,
                "woven m0e5;b7,4,6,10,6;", 1, "restore " + k, STATE, "image " + k, 1, "restore " + other, STATE, "change 0 0 9", 7,
                "image " + k, 1, "count 4", 1, "change 0 0 11", 9, "image " + other, 1, "woven m3;", 1, "restore " + k, 1,
                "advice 0 0", 9, "count 4", 0, "undo", STATE, "change 0 0 20", 9, "restore " + other, 1, "advice 0 0", 11,
                "count 4", 0, "restore " + k, 1, "advice 0 0", 9, "restore 2", BAD, "restore -1", BAD, "image 2", BAD, "image -1", BAD,
                "advice 0 0", 9);
        }
        Played.scene("BAD ahead of STATE", "image 2", BAD, "image -1", BAD, "restore 2", BAD, "restore -1", BAD);
    }

    private static void status() {
        Played.scene("0: there was none", "status", 0, "row 8 0 0", BAD, "status", 0, "drop 8", BAD, "status", 0, "as 0 0", BAD,
            "status", 0, "fits 0 0 0 0 0", BAD, "status", 0);
        // by each finding, and by each call that has none
        String[] finds = {"drop 6", "set 1 1 1", "as 0 1", "row 0 0 -1", "copy 1 0 2 0 0"};
        int[] answers = {NULL, PLACE, KIND, SIZE, STORE};
        String[] fine = {"row 5 0 0", "set 1 0 1", "copy 1 0 1 0 1", "drop 1", "fits 0 0 0 1 0", "as 0 0", "as 0 5"};
        String[] others = {"feed 1", "weave", "fault", "change 0 0 1", "become 0 1", "become 0 5", "swap 0 1", "swap 0 0", "state 0 0 0 1",
            "belong 0 3", "belong 0 1", "undo", "method 0 0", "advice 0 0", "ahead 0 0", "run 0 0 0", "run 1 0 0", "run 0 0 99", "least 0", "needed 0 0",
            "drawn 1 1 1", "image 0", "restore 0", "restore 1", "kind 0", "ask 0 0", "trace 0", "count 0", "count 6", "row 8 0 0", "row 0 0 41",
            "set 8 0 0", "copy 0 0 8 0 0", "drop 8", "fits 9 0 0 0 0", "as 9 0", "as 0 6", "woven m0;", "feed 256"};
        for (int i = 0; i < 5; i++) {
            for (String call : fine) {
                Played x = new Played("woven m1e5c1;m2f3;b7,4,6,10,6;a8,1,0,5,1;", "row 1 0 1", "row 2 1 1");
                x.due("a FINDING", finds[i], answers[i]);
                x.due("a FINDING", "status", i + 1);
                x.call(call);
                x.due("none by " + call, "status", 0);
            }
            for (String call : others) {
                Played x = new Played("woven m1e5c1;m2f3;b7,4,6,10,6;a8,1,0,5,1;", "row 1 0 1", "row 2 1 1", finds[i]);
                x.call(call);
                x.due("as it was, by " + call, "status", i + 1);
            }
            for (int j = 0; j < 5; j++) {
                Played x = new Played("woven m1e5c1;m2f3;b7,4,6,10,6;a8,1,0,5,1;", "row 1 0 1", "row 2 1 1", finds[i], finds[j]);
                x.due("the latest", "status", j + 1);
            }
        }
    }

    private static void kinds() {
        String[] are = {"01", "012", "013", "04", "045"};
        for (int a = 0; a < 5; a++) {
            for (int kind = -1; kind <= 6; kind++) {
                boolean is = kind >= 0 && are[a].indexOf('0' + kind) >= 0;
                Played.scene("as one of a KIND", "woven m0;a1,4,6,10,6;r2,4,6,10,6;t3,4,6,10,6;o4,4,6,10,6;b5,4,6,10,6;", 1,
                    "as " + a + " " + kind, kind < 0 || kind > 5 ? BAD : is ? a : KIND, "status", is || kind < 0 || kind > 5 ? 0 : 3);
            }
        }
    }

    public static void main(String[] args) {
        newObject();
        row();
        set();
        copy();
        drop();
        acts();
        looks();
        runs();
        status();
        kinds();
        Played.end();
    }
}
