import java.math.BigInteger;

/** Sections 2 to 4 of the document: the bounds of runs, of what is known ahead, of acts, of what is foretold and asked. */
public final class WovenCallsRunBoundaries {
    private static final int NONE = Played.NONE, BAD = Played.BAD, STATE = Played.STATE, FULL = Played.FULL;
    /** Method 1 emits 94 numbers by this: 30 of the advice, 64 of its body, which goes on 16 times. */
    private static final String MANY = "o2,4,1,10,6;".repeat(4);
    /** By 1 method 0 emits 98 numbers, and what it has in place of @ behind them. */
    private static final String NEARLY = "m0c1c2@;m0e1e1e1e1;m0e1e1e1e1;" + MANY;

    private static void classes() {
        String[] below = {"0123", "13", "2", "3", "0123"};
        for (int above = 0; above <= 4; above++) {
            for (int clazz = 0; clazz <= 3; clazz++) {
                int is = below[above].indexOf('0' + clazz) >= 0 ? 1 : 0;
                Played.scene("CLASS " + above + " or one below, " + clazz, "woven m" + clazz + "e5;b7," + above + ",6,10,6;",
                    1, "run 0 0 -1", 1 + is, "ahead 0 0", is);
            }
        }
    }

    private static void belows() {
        for (int below = 0; below <= 10; below++) {
            Played x = new Played("woven m0e5;b7,4,6," + below + ",6;");
            for (int arg = 0; arg <= 9; arg++) {
                x.due("x is less than BELOW " + below, "run 0 " + arg + " -1", arg < below ? 2 : 1);
                x.due("what it returns", "run 0 " + arg + " -3", arg);
            }
            x.due("BELOW " + below + " ahead", "ahead 0 0", below == 0 ? 0 : below == 10 ? 1 : 2);
            x.due("TESTS, BELOW " + below, "run 0 0 -5", below == 0 || below == 10 ? 0 : 1);
        }
    }

    private static void methodsAndFlows() {
        for (int named = 0; named <= 6; named++) {
            int is = named == 1 || named == 6 ? 1 : 0;
            Played.scene("the METHOD is its METHOD " + named, "woven m0;m0e5;b7,4," + named + ",10,6;", 2,
                "run 1 9 -1", 1 + is, "ahead 1 0", is);
            Played.scene("FLOW " + named + " of a CALL alone", "woven m0;m0e5;b7,4,6,10," + named + ";", 2,
                "run 1 9 -1", 1 + is, "ahead 1 0", is, "run 1 9 -5", 0);
        }
        Played.scene("FLOW of a CALL that is not over", "woven m0c1;m0c2;m0e5;b7,4,2,10,0;", 3, "run 0 1 -1", 0,
            "run 0 2 -1", 2, "run 1 1 -1", 1, "run 2 9 -1", 1, "ahead 2 0", 2, "run 0 2 -5", 1, "run 2 9 -5", 1);
        Played.scene("FLOW of a CALL that is over", "woven m0c1c2;m0;m0e5;b7,4,2,10,1;", 3, "run 0 9 -1", 1, "ahead 2 0", 0);
        Played.scene("FLOW, its own METHOD at the outermost CALL", "woven m0e5c0;b7,4,6,10,0;", 1, "run 0 0 -1", 2,
            "run 0 9 -1", 20, "ahead 0 0", 1);
    }

    private static void bodies() {
        Played.scene("c CALLS by x less 1, if x is above 0", "woven m0c0e5;", 1, "run 0 0 -4", 1, "run 0 1 -4", 2,
            "run 0 9 -4", 10, "run 0 0 -3", 0, "run 0 1 -3", 1, "run 0 9 -3", 45);
        Played.scene("a method without statements", "woven m0;", 1, "run 0 9 -1", 0, "run 0 9 -2", 0, "run 0 9 -3", 9,
            "run 0 9 -4", 1, "run 0 9 -5", 0, "run 0 9 0", NONE);
        Played.scene("nothing behind an f", "woven m0e1f9e2e3;", 1, "run 0 0 -1", 1, "run 0 0 -2", 9, "run 0 0 -3", NONE);
        Played.scene("the least FAILURE", "woven m0f1;", 1, "run 0 0 -2", 1, "run 0 0 -1", 0, "run 0 0 -4", 1);
        for (char outer : "artob".toCharArray()) {
            String next = "woven m0e5;m0e5f3;" + outer + "1,4,6,10,6;b2,4,6,10,6;b3,4,6,10,6;b4,4,6,10,6;b6,4,6,10,6;";
            Played x = new Played(next);
            int first = outer == 'o' || outer == 'b' ? 1 : 0;
            for (int i = 0; i < 4; i++) x.due("ADVICE 0 is outermost, " + outer, "run 0 0 " + (first + i), i == 3 ? 6 : 2 + i);
            for (int i = 0; i < 4; i++) x.due("ADVICE 0 is outermost, " + outer, "run 1 0 " + (first + i), i == 3 ? 6 : 2 + i);
            x.due("the BODY behind all ADVICE", "run 0 0 " + (first + 4), 5);
        }
        for (int n = 1; n <= 99; n++) {
            int times = n % 3;
            Played x = new Played("woven m0e5;m0e6f4;o" + n + ",4,6,10,6;");
            x.due("around by " + n, "run 0 3 -1", 2 + times);
            x.due("around by " + n, "run 0 3 0", n);
            x.due("around by " + n, "run 0 3 " + (1 + times), n + 100);
            x.due("around by " + n, "run 0 3 -3", times == 0 ? n : 4);
            x.due("around by " + n + " that fails", "run 1 3 -2", times == 0 ? 0 : 4);
            x.due("around by " + n + " that fails", "run 1 3 -1", 2);
            x.due("around by " + n + " that fails", "run 1 3 1", times == 0 ? n + 100 : 6);
        }
    }

    /** A run of method 0 by 1 that emits some numbers, or is full: also each question about one is FULL then. */
    private static void emits(String more, String advice, int numbers, int failure) {
        Played x = new Played("woven " + NEARLY.replace("@", more) + advice);
        String sentence = "99 numbers, by " + more + " " + advice;
        boolean full = numbers > 99;
        x.due(sentence, "run 0 1 -1", full ? FULL : numbers);
        x.due(sentence, "run 0 1 -2", full ? FULL : failure);
        x.due(sentence, "run 0 1 0", full ? FULL : x.call("run 0 1 0"));
        if (full) {
            for (int what : new int[] {-3, -4, -5, 98, 99, 100, Played.HIGH}) x.due(sentence, "run 0 1 " + what, FULL);
            x.due(sentence, "needed 0 1", FULL);
            x.due("BAD ahead of FULL", "run 0 1 -6", BAD);
            x.due("a FULL run is over with itself", "run 0 0 -4", 1);
        } else {
            if (x.call("run 0 1 " + (numbers - 1)) < 1) Played.hold(sentence + ", the last one", 0, 1);
            x.due(sentence, "run 0 1 " + numbers, NONE);
        }
    }

    private static void numbers99() {
        emits("", "", 98, 0);
        emits("e1", "", 99, 0);
        emits("e1e1", "", 100, 0);
        emits("e1f7", "", 99, 7);
        for (char sort : "bar".toCharArray()) {
            emits("", sort + "1,4,0,10,6;", 99, 0);
            emits("e1", sort + "1,4,0,10,6;", 100, 0);
        }
        emits("e1", "t1,4,0,10,6;", 99, 0);
        emits("f7", "t1,4,0,10,6;", 99, 7);
        emits("e1f7", "t1,4,0,10,6;", 100, 7);
        emits("f7", "a1,4,0,10,6;", 99, 7);
        emits("e1f7", "a1,4,0,10,6;", 100, 7);
        emits("e1f7", "r1,4,0,10,6;", 99, 7);
        emits("e1f7", "b1,4,0,10,6;", 100, 7);
        emits("", "o1,4,0,10,6;", 100, 0);
        emits("f7", "o1,4,0,10,6;", 99, 7);
        emits("e1f7", "o1,4,0,10,6;", 100, 7);
        emits("e1", "o3,4,0,10,6;", 2, 0);
        // 97 and two of the advice
        Played.scene("99 numbers, the last one and 100", "woven " + NEARLY.replace("@;", ";") + "o1,4,0,10,6;", 3,
            "state 2 0 1 0", 0, "run 0 1 -1", 99, "run 0 1 98", 101, "run 0 1 99", NONE, "run 0 1 0", 1);
    }

    private static void calls300() {
        Played.scene("300 CALLS", "woven m0c1c2c2e5;m0c1c1;m0c2c3c3;m0;", 4, "run 0 8 -4", 300, "run 0 8 -1", 1,
            "run 0 8 -2", 0, "state 0 3 1 3", 0, "run 0 8 -4", FULL, "run 0 8 -1", FULL, "run 0 8 -3", FULL, "run 0 8 -2", FULL,
            "run 0 8 0", FULL, "run 0 8 -5", FULL, "needed 0 8", FULL, "run 0 8 -6", BAD, "run 0 9 -4", FULL,
            "undo", 0, "run 0 8 -4", 300, "run 0 9 -4", FULL, "state 0 3 2 6", 0, "run 0 8 -4", 300, "run 0 8 -2", 6);
        // the failure comes with the 300th call, or would come with the 301st
        Played.scene("fails in the 300th CALL", "woven m0c1c2c4c5;m0c1c1;m0c2c3c3;m0;m0c2c3e5;m0f6;", 6, "run 0 8 -4", 300,
            "run 0 8 -2", 6, "run 0 8 -3", NONE, "state 4 2 1 3", 0, "run 0 8 -2", FULL, "run 0 8 -3", FULL);
        Played.scene("the 301st CALL would fail", "woven m0c1c2c2c3;m0c1c1;m0c2c4c4;m0f6;m0;", 5, "run 0 8 -2", FULL,
            "least 0", 1);
        Played.scene("TESTS of 300 CALLS", "woven m0c1c2c2e5;m0c1c1;m0c2c3c3;m0;" + "b1,4,6,1,5;".repeat(3) + "b1,4,6,9,0;a1,4,6,1,6;",
            4, "run 0 8 -5", FULL, "become 3 3", 5, "become 4 3", 1, "run 0 8 -5", 600);
    }

    private static void reached() {
        Played.scene("REACHED, one after the other", "woven m0c1;m0c2;m0c3;m0c4;m0c5;m0;", 6, "method 0 2", 62, "method 1 2", 60,
            "method 4 2", 32, "method 5 2", 0, "state 4 0 0 1", 1, "method 0 2", 30, "undo", 0, "method 0 2", 62);
        Played.scene("REACHED, the other way", "woven m0;m0c0;m0c1;m0c2;m0c3;m0c4;", 6, "method 5 2", 31, "method 1 2", 1,
            "method 0 2", 0);
        Played.scene("REACHED, all the way round", "woven m0c5;m0c0;m0c1;m0c2;m0c3;m0c4;", 6, "method 0 2", 63, "method 5 2", 63);
        Played.scene("REACHED, through the first", "woven m0c2;m0c0;m0;", 3, "method 1 2", 5, "method 0 2", 4);
        // what the weave before had at that place is no method any more
        Played.scene("FLOW, a METHOD that there is not", "woven m0;m0c0;", 2, "woven m0;b1,4,6,9,1;", 1, "ahead 0 0", 0, "run 0 0 -5", 0,
            "ask 0 1", 0 - 2 * (1 - 100), "become 0 1", 5, "ask 0 1", 0);
        Played.scene("REACHED, itself", "woven m0c0;m0c2;m0c1;m0;", 4, "method 0 2", 1, "method 1 2", 6, "method 2 2", 6,
            "method 3 2", 0);
        Played.scene("FLOW far away", "woven m0c1;m0c2;m0c3;m0c4;m0c5;m0e5;b7,4,5,10,0;", 6, "ahead 5 0", 2, "run 0 5 -1", 2,
            "run 0 4 -1", 0, "run 1 4 -1", 1, "run 0 5 -5", 1, "state 2 0 0 9", 1, "ahead 5 0", 0, "run 5 0 -5", 0);
        Played.scene("FLOW that is not REACHED but is it", "woven m0;b7,4,6,9,0;b7,4,6,10,0;", 1, "ahead 0 0", 2, "ahead 0 1", 1);
    }

    /** Seventeen acts, each told by its number from 0 on; what is asked tells how many of them stand. */
    private static void acts(String sentence, String weave, String asked, String[] acts, int[] asks) {
        Played x = new Played("woven " + weave);
        x.due(sentence, asked, asks[0]);
        for (int i = 0; i < 17; i++) {
            x.due(sentence, "count 4", Math.min(i, 16));
            int was = x.call(acts[i % acts.length]);
            if (was < 0) Played.hold(sentence + " is an act", was, 0);
            x.due(sentence, asked, asks[(i + 1) % asks.length]);
        }
        x.due(sentence + ", of more the oldest is forgotten", "count 4", 16);
        for (int left = 15; left >= 0; left--) {
            x.due(sentence, "undo", left);
            x.due(sentence, asked, asks[(left + 1) % asks.length]);
        }
        x.due(sentence, "undo", STATE);
        x.due(sentence, "count 4", 0);
        x.due(sentence + ", the oldest stands", asked, asks[1 % asks.length]);
    }

    private static void acts16() {
        String weave = "m0e1;m1;b1,4,6,10,6;a2,4,6,9,5;";
        acts("NUMBER", weave, "advice 0 0", new String[] {"change 0 0 99", "change 0 0 50", "change 0 0 1"}, new int[] {1, 99, 50});
        acts("BELOW", weave, "advice 1 3", new String[] {"change 1 1 0", "change 1 1 10", "change 1 1 9"}, new int[] {9, 0, 10});
        acts("FLOW", weave, "advice 1 4", new String[] {"change 1 2 0", "change 1 2 6", "change 1 2 5"}, new int[] {5, 0, 6});
        acts("nothing becomes another", weave, "advice 1 4", new String[] {"change 1 2 5"}, new int[] {5});
        acts("KIND", weave, "kind 1", new String[] {"become 1 5", "become 1 3", "become 1 1"}, new int[] {1, 5, 3});
        acts("places", weave, "advice 0 0", new String[] {"swap 0 1"}, new int[] {1, 2});
        acts("places, the other way", weave, "kind 1", new String[] {"swap 1 0"}, new int[] {1, 5});
        acts("a statement", weave, "method 0 20", new String[] {"state 0 0 2 9", "state 0 0 0 99", "state 0 0 0 1"}, new int[] {1, 9, 99});
        acts("a statement's sort", weave, "method 0 10", new String[] {"state 0 0 2 1", "state 0 0 1 1", "state 0 0 0 1"}, new int[] {0, 2, 1});
        acts("the same statement", weave, "method 0 20", new String[] {"state 0 0 0 1"}, new int[] {1});
        acts("CLASS", weave, "method 1 0", new String[] {"belong 1 0", "belong 1 3", "belong 1 1"}, new int[] {1, 0, 3});
        Played x = new Played("woven " + weave);
        for (int i = 1; i <= 15; i++) x.due("acts", "change 0 0 " + i, Math.max(1, i - 1));
        x.due("15 acts", "count 4", 15);
        x.due("the 16th", "become 0 1", 5);
        x.due("16 acts", "count 4", 16);
        x.due("the latest first", "undo", 15);
        x.due("the latest first", "kind 0", 5);
        for (int left = 14; left >= 0; left--) x.due("16 undone", "undo", left);
        x.due("all undone", "advice 0 0", 1);
        x.due("none", "undo", STATE);
        x.due("acts anew", "swap 0 1", 2);
        x.due("acts anew", "undo", 0);
    }

    private static Played rowOf(String weave, int row, int... items) {
        Played x = new Played("woven " + weave, "row " + row + " 2 " + items.length);
        for (int i = 0; i < items.length; i++) x.call("set " + row + " " + i + " " + items[i]);
        return x;
    }

    private static int[] ones(int n) {
        int[] items = new int[n];
        java.util.Arrays.fill(items, 1);
        return items;
    }

    private static void fits() {
        // by 2 method 0 emits 40 numbers, by advice one more
        String forty = "m0c1c1c1c1;m0c2c2e1e1;m0e1e1e1e1;b1,4,0,10,6;";
        rowOf(forty, 0, ones(40)).due("40 of 41 or 40 numbers", "fits 0 0 2 0 1", 2047);
        rowOf(forty, 0, ones(40)).due("40 of 41 or 40 numbers", "fits 0 0 2 0 0", 62);
        String less = "m0c1c1c1c3;m0c2c2e1e1;m0e1e1e1e1;m0c2c2e1;b1,4,0,10,6;";
        rowOf(less, 7, ones(40)).due("as many at least: 40 of 40 or 39", "fits 0 0 2 7 1", 2047 - 7);
        rowOf(less, 7, ones(39)).due("as many at least: 39 of 40 or 39", "fits 0 0 2 7 1", 2047);
        rowOf(less, 7, ones(40)).due("as many at least, kinds", "fits 0 0 2 7 0", 2 + 4 + 16 + 32);
        int[] other = ones(40);
        other[39] = 2;
        rowOf(forty, 0, other).due("the last one differs", "fits 0 0 2 0 1", 0);
        other[39] = 1;
        other[0] = 2;
        rowOf(forty, 0, other).due("the first one differs", "fits 0 0 2 0 1", 0);
        for (int arg = 0; arg <= 9; arg++) {
            rowOf("m0e5;b7,4,6,3,6;", 1, 7).due("BELOWS by " + arg, "fits 0 0 " + arg + " 1 1", 2047 >> arg + 1 << arg + 1);
            rowOf("m0e5;b7,4,6,3,6;", 1, 5).due("BELOWS by " + arg, "fits 0 0 " + arg + " 1 1", (1 << arg + 1) - 1);
        }
        rowOf("m0e1;b1,4,6,10,6;", 0, 1).due("KINDS, one", "fits 0 0 0 0 0", 62);
        rowOf("m0e1;b1,4,6,10,6;", 0, 1, 1).due("KINDS, two", "fits 0 0 0 0 0", 62 - 8);
        rowOf("m0e1;b1,4,6,10,6;", 0, 1, 1, 101).due("KINDS, three", "fits 0 0 0 0 0", 16);
        rowOf("m0e1;b1,4,6,10,6;", 0, 1, 1, 101, 1).due("KINDS, four", "fits 0 0 0 0 0", 0);
        String five = "m0e9;b1,4,6,10,6;b2,4,6,10,6;b3,4,6,10,6;b4,4,6,10,6;b5,4,6,10,6;";
        for (int a = 0; a < 5; a++) {
            for (int first = 0; first < 5; first++) {
                int due = a == 0 ? 1 << first : first == 0 ? 30 : first == a ? 1 : 0;
                rowOf(five, 0, first + 1).due("PLACES of " + a, "fits " + a + " 0 0 0 2", due);
            }
        }
        rowOf(five, 0, 5, 2, 3, 4, 1, 9).due("the ADVICE there comes to its own", "fits 0 0 0 0 2", 16);
        rowOf(five, 0, 1, 2, 3, 4, 5, 9).due("its own PLACE", "fits 3 0 0 0 2", 8);
        rowOf("m0e9;b1,4,6,10,6;", 0, 1).due("one PLACE alone", "fits 0 0 0 0 2", 1);
        fitsOfFull();
    }

    private static void fitsOfFull() {
        String weave = NEARLY.replace("@", "e1") + "b2,4,0,10,6;";
        rowOf(weave, 0, 2).due("99 numbers fit by t and by BELOWS to 1, 100 are FULL", "fits 4 0 1 0 0", 8);
        rowOf(weave, 0, 2).due("99 numbers fit by t and by BELOWS to 1, 100 are FULL", "fits 4 0 1 0 1", 3);
        rowOf(weave, 0, 2).due("FULL at any place", "fits 4 0 1 0 2", 0);
    }

    private static void least() {
        for (int below = 0; below <= 10; below++) {
            Played.scene("LEAST, from BELOW on", "woven m0f1;o3,4,0," + below + ",6;", 1, "least 0", below == 10 ? NONE : below);
        }
        Played.scene("LEAST, ten CALLS deep", "woven m0c1c0;m0c2;m0c3;m0c4;m0c5;m0c5;", 6, "least 0", NONE, "state 5 0 2 1", 1,
            "least 0", 5, "least 5", 0);
        String full = "m0c1c2c3;m0e1e1e1e1;m0e1e1e1e1;m0@f5;" + MANY + "t1,4,0,10,6;";
        Played.scene("LEAST, of 99 numbers", "woven " + full.replace("@", ""), 4, "run 0 1 -1", 99, "least 0", 1);
        Played.scene("LEAST, of 100", "woven " + full.replace("@", "e1"), 4, "run 0 1 -1", FULL, "run 0 0 -1", 0, "least 0", NONE);
        Played.scene("LEAST, behind one that is FULL", "woven m0c1c0c0c0;m0f1;o3,4,1,6,6;", 2, "run 0 1 -2", 0,
            "run 0 6 -2", FULL, "run 0 7 -2", 1, "least 0", 7, "change 0 1 9", 6, "least 0", NONE);
    }

    private static void needed() {
        Played.scene("NEEDED, bits 0 and 4", "woven m0e5;b1,4,6,10,6;b2,4,6,5,6;b3,4,6,5,6;b4,4,6,5,6;b5,4,6,10,6;", 1,
            "needed 0 4", 31, "needed 0 5", 17, "needed 0 9", 17, "change 0 1 0", 10, "needed 0 9", 16, "count 4", 1);
        Played.scene("NEEDED, nothing becomes otherwise", "woven m0e5;r1,4,6,0,6;t2,4,6,10,6;b3,4,5,10,6;b3,4,6,10,5;", 1, "needed 0 0", 0);
        // two numbers both with it and without it, but by 1 it gives 3 for what returns 0
        Played.scene("NEEDED, what it returns", "woven m0c1;m0e5e6;o3,4,1,10,6;", 2, "run 0 1 -1", 2, "run 0 1 -3", 4,
            "needed 0 1", 1, "needed 0 0", 0);
        Played.scene("NEEDED, as many numbers, and the same returned", "woven m0c1;m0e5e6;o3,4,1,10,6;", 2, "run 0 4 -3", 7,
            "needed 0 4", 0);
        Played.scene("NEEDED, whether it fails", "woven m0c1;m0e5e6f1;o3,4,1,10,6;", 2, "run 0 4 -1", 2, "needed 0 4", 1);
        Played.scene("NEEDED, by what it fails", "woven m0c1f2;m0e5e6f1;o3,4,1,10,6;", 2, "run 0 4 -2", 2, "needed 0 4", 1,
            "state 0 1 2 1", 2, "needed 0 4", 0);
        // without the one that never goes on, 100 numbers or 99 are emitted
        String stops = "o3,4,0,10,6;";
        Played.scene("NEEDED, FULL is otherwise", "woven " + NEARLY.replace("@", "e1e1") + stops, 3, "needed 0 1", 16);
        Played.scene("NEEDED, the run is FULL", "woven " + NEARLY.replace("@", "e1e1") + "b1,4,0,10,6;", 3, "needed 0 1", FULL,
            "needed 0 0", 16, "needed 0 10", BAD, "needed 3 1", BAD);
    }

    private static void drawn() {
        int[] numbers = {1, 2, 3, 4, 0, 2};
        String weave = "m0e1;m0e1e1;m0e1e1e1;m0e1e1e1e1;m0f1;m0e1e1f1;";
        for (int seed : new int[] {1, 2, 7, 8, 499999, 999998, 999999}) {
            BigInteger x = BigInteger.valueOf(seed);
            int all = 0, fails = 0, byArgument = 0;
            for (int n = 0; n <= 20; n++) {
                Played.scene("DRAWN by " + seed, "woven " + weave, 6, "drawn " + n + " " + seed + " 0", all,
                    "drawn " + n + " " + seed + " 1", fails, "woven m0e1c0;", 1, "drawn " + n + " " + seed + " 0", byArgument,
                    "drawn " + n + " " + seed + " 1", 0);
                x = x.multiply(BigInteger.valueOf(16807)).mod(BigInteger.valueOf(2147483647));
                int method = x.mod(BigInteger.valueOf(6)).intValue();
                all += numbers[method];
                fails += method >= 4 ? 1 : 0;
                byArgument += 1 + x.divide(BigInteger.valueOf(8)).mod(BigInteger.valueOf(6)).intValue();
            }
        }
        // the third draw by 1 is of argument 5, the first two of 0: what is FULL by 5 is left out
        Played.scene("DRAWN, FULL ones are left out", "woven m0c0c0c0c0;", 1, "drawn 3 1 0", 0, "drawn 3 1 1", 0,
            "woven m0e1c0c0c0;", 1, "drawn 2 1 0", 2, "drawn 3 1 0", 2, "run 0 5 -1", FULL);
        Played.scene("DRAWN, STATE ahead of BAD", "drawn -1 0 2", STATE, "drawn 21 1000000 -1", STATE, "drawn 0 1 0", STATE,
            "woven m4;", -1000101, "drawn 0 0 0", STATE, "woven m0;", 1, "drawn 0 0 0", BAD, "drawn 0 1 0", 0);
    }

    private static void asks() {
        Played x = new Played("woven m0e1;m1;r32,4,0,10,6;b35,4,6,10,5;");
        x.due("THE TRACE is empty at first", "trace 0", NONE);
        x.due("THE TRACE is empty at first", "trace -1", NONE);
        x.due("RETURNING", "ask 0 0", -(32 + 2 * (0 + 1)));
        int[] bodies = {12, 11, 10, 24, 21, 20};
        for (int i = -2; i <= 17; i++) x.due("Number i of THE TRACE", "trace " + i, i >= 0 && i < 6 ? bodies[i] : NONE);
        x.due("NONE", "trace " + Played.LOW, NONE);
        x.due("NONE", "trace " + Played.HIGH, NONE);
        x.due("THE TRACE stays", "ask 2 0", BAD);
        x.due("THE TRACE stays", "ask -1 0", BAD);
        x.due("THE TRACE stays", "ask 0 2", BAD);
        x.due("THE TRACE stays", "ask 0 -1", BAD);
        for (int i = 0; i <= 6; i++) x.due("THE TRACE stays", "trace " + i, i < 6 ? bodies[i] : NONE);
        x.due("BEFORE", "ask 1 0", 2 * (35 - 100));
        int[] fewer = {14, 13, 10};
        for (int i = 0; i <= 6; i++) x.due("THE TRACE is empty ahead of it", "trace " + i, i < 3 ? fewer[i] : NONE);
        x.due("THE TRACE stays", "woven m0;", 1);
        x.due("no ADVICE", "ask 0 0", BAD);
        x.due("THE TRACE stays", "trace 2", 10);
    }

    private static void lastCall() {
        Played x = new Played("woven m0e5;b7,4,6,10,6;");
        while (x.callsLeft() > 2) x.call("change 0 0 " + (1 + x.callsLeft() % 99));
        x.due("the last calls but one", "run 0 0 -1", 2);
        x.due("the 512th call", "count 4", 16);
    }

    public static void main(String[] args) {
        classes();
        belows();
        methodsAndFlows();
        bodies();
        numbers99();
        calls300();
        reached();
        acts16();
        fits();
        least();
        needed();
        drawn();
        asks();
        lastCall();
        Played.end();
    }
}
