/** Section 1 of the document, from the tape on: each bound of the text, each fault with its place. */
public final class WovenCallsTextBoundaries {
    private static final int BAD = Played.BAD, FULL = Played.FULL, STATE = Played.STATE;
    private static final String ADVICE = "b1,4,6,10,6;";
    /** As many bytes as there may be, every one of which is read: 6 methods, 24 statements, 3 of advice. */
    private static final String LONGEST =
        "m00e11e11e11e11;" + "m0e11e11e11e11;".repeat(5) + "b11,4,6,10,6;".repeat(3);
    /** As many methods, statements and advice as there may be. */
    private static final String FULLEST = "m0e1e1e1e1;".repeat(6) + ADVICE.repeat(5);

    private static int at(int place) {
        return -1000100 - place;
    }

    private static void read(String text, int methods) {
        Played x = new Played();
        x.due("is read", "woven " + text, methods);
        x.due("no fault of " + text, "fault", 0);
    }

    private static void fault(String text, int place, int number) {
        Played x = new Played();
        x.due("has a fault", "woven " + text, at(place));
        x.due("the fault of " + text, "fault", number);
        x.due("no weave of " + text, "count 1", 0);
        x.due("the tape is empty behind " + text, "count 5", 0);
    }

    private static void tape() {
        Played x = new Played();
        for (int i = 1; i <= 130; i++) x.due("the tape has at most 130 bytes", "feed 109", i);
        x.due("the tape has at most 130 bytes", "feed 109", FULL);
        x.due("the tape has at most 130 bytes", "feed 0", FULL);
        x.due("BAD ahead of FULL", "feed 256", BAD);
        x.due("BAD ahead of FULL", "feed -1", BAD);
        x.due("a full tape", "count 5", 130);
        x.due("a full tape is read", "weave", at(1));
        x.due("the tape, empty then", "count 5", 0);
        for (int i = 1; i <= 130; i++) x.due("the tape is fed anew", "feed 109", i);
        x.due("the tape is full anew", "feed 109", FULL);
        Played.bounds(new String[0], "feed @", 0, 255);
        Played.bounds(new String[] {"text m0"}, "feed @", 0, 255);
        Played.scene("an empty tape", "weave", at(0), "fault", 1, "weave", at(0));
        Played.scene("a tape that was read is empty", "woven m0;", 1, "count 5", 0, "weave", at(0), "count 1", 1);
    }

    private static void longest() {
        Played.hold("bytes of the longest", LONGEST.length(), 130);
        read(LONGEST, 6);
        read(FULLEST, 6);
        Played.scene("all is kept of the fullest", "woven " + FULLEST, 6, "count 1", 6, "count 2", 5, "count 3", 24);
        Played.scene("the last byte counts", "text " + LONGEST, 130, "feed 59", FULL, "weave", 6, "count 2", 3);
        fault(LONGEST.substring(0, 129) + ",", 129, 1);
        // a text is no weave but where a method or an advice ends: else the end is the fault, also that of a full tape
        for (int n = 0; n < 130; n++) {
            String cut = LONGEST.substring(0, n);
            if (cut.endsWith(";")) read(cut, Math.min(6, (n - 1) / 15));
            else fault(cut, n, 1);
        }
        fault("m0" + LONGEST.substring(3, 129) + "00", 127, 1);
        String open = "m00" + LONGEST.substring(3, 117) + "b11,04,6,10,6";
        Played.hold("bytes of the open one", open.length(), 130);
        fault(open, 130, 1);
    }

    /** Every byte behind a beginning; those that are told may stand there, and then the end is the fault. */
    private static void sweep(String begin, String taken, String ends, String tooGreat, int greatAt) {
        for (int b = 0; b < 256; b++) {
            String text = begin + (char) b;
            if (ends.indexOf(b) >= 0) read(text, 1);
            else if (taken.indexOf(b) >= 0) fault(text, text.length(), 1);
            else if (tooGreat.indexOf(b) >= 0) fault(text, greatAt, 2);
            else fault(text, begin.length(), 1);
        }
    }

    private static void tokens() {
        sweep("", "m", "", "", 0);
        sweep("m", "0123", "", "456789", 1);
        sweep("m0", "ecf0123", ";", "456789", 1);
        sweep("m1", "ecf", ";", "0123456789", 1);
        sweep("m0;", "martob", "", "", 0);
        sweep("m0e", "123456789", "", "0", 3);
        sweep("m0c", "012345", "", "6789", 3);
        sweep("m0f", "123456789", "", "0", 3);
        sweep("m0e1", "ecf0123456789", ";", "", 0);
        sweep("m0e1c0f1e1", "0123456789", ";", "", 0);
        sweep("m0;b", "123456789", "", "0", 4);
        sweep("m0;b1", ",0123456789", "", "", 0);
        sweep("m0;b1,", "01234", "", "56789", 6);
        sweep("m0;b1,4", ",", "", "0123456789", 6);
        sweep("m0;b1,4,", "0123456", "", "789", 8);
        sweep("m0;b1,4,6", ",", "", "0123456789", 8);
        sweep("m0;b1,4,6,", "0123456789", "", "", 0);
        sweep("m0;b1,4,6,1", ",0", "", "123456789", 10);
        sweep("m0;b1,4,6,10,", "0123456", "", "789", 13);
        sweep("m0;b1,4,6,10,6", "", ";", "0123456789", 13);
        sweep("m0;" + ADVICE, "artob", "", "", 0);
    }

    /** A number in place of @, in one figure and in two, from what to what it may be. */
    private static void number(String text, int least, int most, String asked) {
        int place = text.indexOf('@');
        for (int v = 0; v <= 99; v++) {
            String two = (v < 10 ? "0" : "") + v;
            for (String figures : v < 10 ? new String[] {"" + v, two} : new String[] {two}) {
                String put = text.replace("@", figures);
                if (v < least || v > most) {
                    fault(put, place, 2);
                    continue;
                }
                Played x = new Played();
                if (x.call("woven " + put) < 1) Played.hold(put + " is read:", 0, 1);
                x.due("the number of " + put, asked, v);
            }
        }
        fault(text.replace("@", "000"), place, 1);
        fault(text.replace("@", "100"), place, 1);
        fault(text.replace("@", "001"), place, 1);
        fault(text.replace("@", "4294967297"), place, 1);
        fault(text.replace("@", "1".repeat(60)), place, 1);
        fault(text.replace("@", ""), place, 1);
    }

    private static void numbers() {
        number("m@;", 0, 3, "method 0 0");
        number("m0;m0;m0;m0;m0;m@;", 0, 3, "method 5 0");
        number("m0e@;", 1, 99, "method 0 20");
        number("m0f1f1f1e@;", 1, 99, "method 0 23");
        number("m0c@;m0;m0;m0;m0;m0;", 0, 5, "method 0 20");
        number("m0f@;", 1, 9, "method 0 20");
        for (char sort : "artob".toCharArray()) {
            number("m0;" + sort + "@,4,6,10,6;", 1, 99, "advice 0 0");
            number("m0;" + sort + "1,@,6,10,6;", 0, 4, "advice 0 1");
            number("m0;" + sort + "1,4,@,10,6;", 0, 6, "advice 0 2");
            number("m0;" + sort + "1,4,6,@,6;", 0, 10, "advice 0 3");
            number("m0;" + sort + "1,4,6,10,@;", 0, 6, "advice 0 4");
        }
        for (int kind = 1; kind <= 5; kind++) {
            Played.scene("the sorts of advice", "woven m0;" + "artob".charAt(kind - 1) + "1,4,6,10,6;", 1, "kind 0", kind);
        }
    }

    private static void room() {
        for (int n = 1; n <= 6; n++) read("m0;".repeat(n), n);
        for (int more = 7; more <= 9; more++) fault("m0;".repeat(more), 18, 3);
        fault("m0;".repeat(6) + "m", 18, 3);
        fault("m0;".repeat(6) + "mm", 18, 3);
        fault("m0;".repeat(6) + "m9", 18, 3);
        for (int n = 0; n <= 4; n++) {
            Played.scene("4 statements at most", "woven m0" + "e1".repeat(n) + ";", 1, "method 0 1", n, "count 3", n);
        }
        for (String fifth : new String[] {"e1;", "c0;", "f1;", "e", "e0;", "x", "m0;", "5e1;"}) {
            fault("m0e1c0f1e10" + fifth, fifth.startsWith("5") ? 9 : 11, 1);
        }
        fault("m0;m0e1e1e1e1e1;", 13, 1);
        for (int n = 0; n <= 5; n++) Played.scene("5 advice at most", "woven m0;" + ADVICE.repeat(n), 1, "count 2", n);
        for (char sort : "artob".toCharArray()) {
            fault("m0;" + ADVICE.repeat(5) + sort, 63, 3);
            fault("m0;" + ADVICE.repeat(5) + sort + "0,9,9,99,9;", 63, 3);
        }
        fault("m0;" + ADVICE.repeat(6) + ADVICE, 63, 3);
    }

    private static void firstAndLeast() {
        // the first token that has a fault
        fault("m4e0;", 1, 2);
        fault("m0e0;m4;", 3, 2);
        fault("m0c5;m4;", 6, 2);
        fault("m0c5;;", 5, 1);
        fault("m0c5;" + "m0;".repeat(4) + "m0;m0;", 20, 3);
        fault("m0;b0,5,7,11,7;", 4, 2);
        fault("m0;b1,5,7,11,7;", 6, 2);
        fault("m0;b1,4,7,11,7;", 8, 2);
        fault("m0;b1,4,6,11,7;", 10, 2);
        fault("m0;b1,4,6,10,7", 13, 2);
        // of one token the least
        fault("m0;".repeat(6) + ADVICE + "m0;", 30, 1);
        fault("m0;" + ADVICE.repeat(5) + "m0;", 63, 1);
        fault("m0;" + ADVICE.repeat(5) + "e1;", 63, 1);
        fault("m0e1e1e1e1b1,4,6,10,6;", 10, 1);
        fault("m0e100;", 3, 1);
        fault("m0c100;", 3, 1);
        fault("m0e", 3, 1);
        fault("m0c5", 4, 1);
        fault("m0c5;b", 6, 1);
        fault("m0c5;b1,4,6,10,6", 16, 1);
    }

    private static void missingMethods() {
        for (int n = 1; n <= 6; n++) {
            for (int called = 0; called <= 5; called++) {
                String first = "m0c" + called + ";" + "m0;".repeat(n - 1);
                String last = "m0;".repeat(n - 1) + "m0e1e1e1c" + called + ";";
                for (String text : new String[] {first, last, first + ADVICE, last + ADVICE}) {
                    if (called < n) read(text, n);
                    else fault(text, text.length(), 4);
                }
            }
        }
        // advice may name a method that there is not
        Played.scene("a METHOD that there is not never is", "woven m0e5;b1,4,1,10,6;b2,4,6,10,1;b3,4,5,10,6;b4,4,6,10,5;",
            1, "run 0 0 -1", 1, "ahead 0 0", 0, "ahead 0 1", 0, "ahead 0 2", 0, "ahead 0 3", 0);
    }

    private static void inPlace() {
        Played.scene("a WEAVE stands in place of the one before", "woven " + FULLEST, 6, "change 4 0 9", 1, "image 1", 1,
            "row 3 1 2", 2, "woven m2f9;", 1, "count 0", 1, "count 1", 1, "count 2", 0, "count 3", 1, "count 4", 0,
            "undo", STATE, "method 0 0", 2, "method 0 10", 2, "method 0 20", 9, "method 0 11", Played.NONE, "method 1 0", BAD,
            "advice 0 0", BAD, "run 0 9 -1", 0, "run 0 9 -2", 9, "drop 3", 2, "restore 1", 1, "count 2", 5, "advice 4 0", 9);
        Played.scene("fault() tells the latest", "fault", 0, "woven m0;", 1, "fault", 0, "woven m4;", at(1), "fault", 2,
            "woven m0;", 1, "fault", 2, "woven m0c1;", at(5), "fault", 4, "woven " + "m0;".repeat(7), at(18), "fault", 3,
            "weave", at(0), "fault", 1, "woven m0;", 1, "fault", 1);
    }

    public static void main(String[] args) {
        tape();
        longest();
        tokens();
        numbers();
        room();
        firstAndLeast();
        missingMethods();
        inPlace();
        Played.end();
    }
}
