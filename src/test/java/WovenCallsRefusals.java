import java.util.ArrayList;
import java.util.List;

/**
 * "What is refused, or found, changes nothing but status()." Two objects are brought to the same state, one of
 * them is refused a call, and then all that can be seen of both is compared: also what is undone, what the
 * images keep, what is on the tape, what the rows hold.
 */
public final class WovenCallsRefusals {
    private static final int BAD = Played.BAD, STATE = Played.STATE, FULL = Played.FULL;
    private static final int NULL = Played.NULL, PLACE = Played.PLACE, KIND = Played.KIND, SIZE = Played.SIZE, STORE = Played.STORE;

    private static final String WEAVE = "woven m1e5c1;m2f3;b7,4,6,10,6;a8,1,0,5,1;";
    /** Something of all there is: a fault, acts, an image, rows of each lane, a trace, a begun text, a finding (3). */
    private static final String[] HOUSE = {
        "woven m4;", WEAVE, "image 0", "change 0 0 9", "swap 0 1", "state 0 1 2 6",
        "row 0 0 2", "set 0 0 3", "set 0 1 4", "row 1 1 1", "set 1 0 5", "row 2 2 0", "row 3 0 3", "set 3 0 6", "set 3 1 7", "set 3 2 8",
        "ask 0 0", "text m0", "as 1 1"};
    private static final String READER = "woven m0e3e4;m0e5;m0e6e7e8;b1,4,0,0,6;";

    private static void facts(Played x, List<Integer> seen) {
        int methods = x.call("count 1"), advice = x.call("count 2");
        for (int m = 0; m < methods; m++) {
            for (int what : new int[] {0, 1, 2, 10, 11, 20, 21}) seen.add(x.call("method " + m + " " + what));
        }
        for (int a = 0; a < advice; a++) {
            for (int what = 0; what <= 4; what++) seen.add(x.call("advice " + a + " " + what));
            seen.add(x.call("kind " + a));
        }
    }

    /** All that can be seen, the status first; what is looked at last is gone by then. */
    private static List<Integer> look(Played x) {
        List<Integer> seen = new ArrayList<>();
        seen.add(x.call("status"));
        seen.add(x.call("fault"));
        for (int what = 0; what <= 5; what++) seen.add(x.call("count " + what));
        for (int i = 0; i <= 6; i++) seen.add(x.call("trace " + i));
        facts(x, seen);
        int left = x.call("count 4");
        for (int i = 0; i <= left; i++) {
            seen.add(x.call("undo"));
            if (left < 5) facts(x, seen);
            else seen.add(x.call("advice 0 0"));
        }
        for (int k = 0; k <= 1; k++) {
            seen.add(x.call("restore " + k));
            facts(x, seen);
        }
        seen.add(x.call("weave"));
        seen.add(x.call("fault"));
        facts(x, seen);
        rows(x, seen);
        return seen;
    }

    private static void rows(Played x, List<Integer> seen) {
        seen.add(x.call(READER));
        seen.add(x.call("fits 0 0 0 0 1"));
        seen.add(x.call("fits 0 1 0 1 1"));
        seen.add(x.call("fits 0 2 0 3 1"));
        for (int row = 0; row <= 7; row++) {
            seen.add(x.call("set " + row + " 0 40000"));
            seen.add(x.call("drop " + row));
        }
    }

    private static void refused(String[] setup, String call, int answer) {
        List<Integer> without = look(new Played(setup));
        Played x = new Played(setup);
        x.due("refused", call, answer);
        List<Integer> with = look(x);
        int due = answer <= NULL && answer >= STORE ? -1000010 - answer : without.get(0);
        Played.hold("the status behind " + call, with.get(0), due);
        with.set(0, 0);
        without.set(0, 0);
        Played.hold("all is as it was behind " + call + ", " + without + ", but " + with, with.equals(without) ? 1 : 0, 1);
    }

    private static void house(int answer, String... calls) {
        for (String call : calls) refused(HOUSE, call, answer);
    }

    /** The look must see what it is there for, else nothing would ever differ. */
    private static void lookSees() {
        String[] changes = {"row 0 0 3", "row 4 0 0", "set 0 0 9", "set 0 1 9", "set 1 0 9", "set 3 2 9", "copy 0 0 0 1 1", "drop 2", "feed 59",
            "woven e", "change 0 0 2", "become 0 3", "swap 0 1", "state 0 0 0 9", "belong 1 0", "undo", "image 0", "image 1", "restore 0",
            "ask 1 1", "as 0 0", "row 1 2 1"};
        List<Integer> house = look(new Played(HOUSE));
        for (String call : changes) {
            Played x = new Played(HOUSE);
            if (x.call(call) <= Played.NONE && !call.equals("woven e")) Played.hold(call + " is taken", 0, 1);
            Played.hold("the look sees " + call, look(x).equals(house) ? 0 : 1, 1);
        }
        Played.hold("the same is seen twice", look(new Played(HOUSE)).equals(house) ? 1 : 0, 1);
    }

    private static void rowsRefused() {
        house(BAD, "row -1 0 1", "row 8 0 1", "row 0 -1 1", "row 0 3 1", "row 0 0 41", "row 0 3 -1", "row 8 0 -1");
        house(SIZE, "row 0 0 -1", "row 4 2 -1", "row 3 1 " + Played.LOW);
        house(BAD, "set -1 0 1", "set 8 0 1");
        house(NULL, "set 4 0 1", "set 7 -1 1");
        house(PLACE, "set 0 -1 1", "set 0 2 1", "set 1 1 1", "set 2 0 1", "set 3 3 1", "set 3 40 1");
        house(BAD, "copy -1 0 0 0 1", "copy 8 0 0 0 1", "copy 0 0 -1 0 1", "copy 0 0 8 0 1");
        house(NULL, "copy 4 0 0 0 1", "copy 0 0 4 0 1", "copy 7 0 7 0 0");
        house(STORE, "copy 0 0 1 0 1", "copy 1 0 0 0 1", "copy 0 0 2 0 0", "copy 2 0 3 0 0");
        house(PLACE, "copy 0 0 0 1 2", "copy 0 1 0 0 2", "copy 3 0 0 0 3", "copy 0 0 3 2 2", "copy 3 -1 0 0 1", "copy 3 0 0 -1 1",
            "copy 3 0 0 0 -1", "copy 3 3 0 0 1", "copy 3 4 0 0 0", "copy 3 0 0 3 0", "copy 3 1 0 0 " + Played.HIGH);
        house(BAD, "drop -1", "drop 8");
        house(NULL, "drop 4", "drop 7");
    }

    private static void actsRefused() {
        house(BAD, "feed -1", "feed 256");
        house(BAD, "change -1 0 1", "change 2 0 1", "change 0 -1 1", "change 0 3 1", "change 0 0 0", "change 0 0 100", "change 0 1 -1",
            "change 0 1 11", "change 0 2 -1", "change 0 2 7");
        house(BAD, "become -1 3", "become 2 3", "become 0 0", "become 0 6");
        house(STATE, "become 0 1", "become 1 5", "swap 0 0", "swap 1 1", "belong 0 1", "belong 1 2");
        house(BAD, "swap -1 0", "swap 0 -1", "swap 2 0", "swap 0 2", "swap 2 2");
        house(BAD, "state -1 0 0 1", "state 2 0 0 1", "state 0 -1 0 1", "state 0 2 0 1", "state 1 1 0 1", "state 0 0 -1 1", "state 0 0 3 1",
            "state 0 0 0 0", "state 0 0 0 100", "state 0 0 1 -1", "state 0 0 1 2", "state 0 0 2 0", "state 0 0 2 10");
        house(BAD, "belong -1 3", "belong 2 3", "belong 0 -1", "belong 0 4");
        house(BAD, "method -1 0", "method 2 0", "method 0 -1", "method 0 3", "method 0 9", "method 0 14", "method 0 19", "method 0 24",
            "advice -1 0", "advice 2 0", "advice 0 -1", "advice 0 5", "ahead -1 0", "ahead 2 0", "ahead 0 -1", "ahead 0 2");
        refused(new String[] {WEAVE, "text m0"}, "undo", STATE);
        refused(new String[] {}, "undo", STATE);
    }

    private static void runsRefused() {
        house(BAD, "run -1 0 0", "run 2 0 0", "run 0 -1 0", "run 0 10 0", "run 0 0 -6", "least -1", "least 2", "needed -1 0", "needed 2 0",
            "needed 0 -1", "needed 0 10");
        house(BAD, "fits -1 0 0 0 0", "fits 2 0 0 0 0", "fits 0 -1 0 0 0", "fits 0 2 0 0 0", "fits 0 0 -1 0 0", "fits 0 0 10 0 0",
            "fits 0 0 0 -1 0", "fits 0 0 0 8 0", "fits 0 0 0 0 -1", "fits 0 0 0 0 3", "fits 2 0 0 4 0", "fits 0 0 0 4 3", "fits 0 0 0 2 3");
        house(NULL, "fits 0 0 0 4 0", "fits 1 1 9 7 2");
        house(PLACE, "fits 0 0 0 2 0", "fits 1 1 9 2 1");
        house(BAD, "drawn -1 1 0", "drawn 21 1 0", "drawn 1 0 0", "drawn 1 1000000 0", "drawn 1 1 -1", "drawn 1 1 2");
        house(BAD, "image -1", "image 2", "restore -1", "restore 2");
        house(STATE, "restore 1");
        String[] none = {"row 0 0 2", "set 0 0 3", "set 0 1 4", "text m0"};
        for (String call : new String[] {"image 0", "image 1", "restore 0", "restore 1", "undo", "drawn 0 1 0", "drawn -1 1 0"}) {
            refused(none, call, STATE);
        }
        for (String call : new String[] {"run 0 0 -1", "change 0 0 1", "swap 0 0", "kind 0", "as 0 0", "ask 0 0", "image 2", "belong 0 0"}) {
            refused(none, call, BAD);
        }
        String[] full = {"woven m0c0c0c0e1;b7,4,6,10,6;a8,1,0,5,1;", "image 1", "change 0 0 9", "row 0 0 1", "text m0", "as 0 1"};
        for (String call : new String[] {"run 0 9 -1", "run 0 9 0", "run 0 9 -5", "needed 0 9"}) refused(full, call, FULL);
    }

    private static void asksRefused() {
        house(BAD, "kind -1", "kind 2", "as -1 0", "as 2 0", "as 0 -1", "as 0 6", "ask -1 0", "ask 2 0", "ask 0 -1", "ask 0 2", "count -1", "count 6");
        house(KIND, "as 0 2", "as 0 3", "as 0 4", "as 0 5", "as 1 1", "as 1 2", "as 1 3");
    }

    /** What asks and foretells changes nothing either; the answers themselves are held elsewhere. */
    private static void foretold() {
        String[] asks = {"fault", "method 0 2", "advice 0 0", "ahead 0 0", "run 0 9 -1", "run 1 0 -2", "least 0", "least 1", "needed 0 9", "needed 1 3",
            "drawn 20 1 0", "drawn 20 999999 1", "kind 0", "trace 0", "count 0", "status"};
        List<Integer> house = look(new Played(HOUSE));
        for (String call : asks) {
            Played x = new Played(HOUSE);
            if (x.call(call) <= Played.NONE) Played.hold(call + " is answered", 0, 1);
            Played.hold("nothing changes by " + call, look(x).equals(house) ? 1 : 0, 1);
        }
        for (int what = 0; what <= 2; what++) {
            Played x = new Played(HOUSE);
            x.call("fits 1 0 3 0 " + what);
            List<Integer> seen = look(x);
            Played.hold("status() of fits", seen.get(0), 0);
            seen.set(0, house.get(0));
            Played.hold("nothing else changes by fits, " + what, seen.equals(house) ? 1 : 0, 1);
        }
    }

    private static void fullTape() {
        String text = "m0e1e1e1e1;".repeat(6) + "b1,4,6,10,6;".repeat(5) + "xxxx";
        refused(new String[] {WEAVE, "text " + text}, "feed 59", FULL);
        refused(new String[] {WEAVE, "text " + text}, "feed 256", BAD);
        refused(new String[] {WEAVE, "text " + text}, "feed -1", BAD);
    }

    /** Of 16 acts none is forgotten for one that is refused. */
    private static void fullActs() {
        String[] setup = new String[18];
        setup[0] = WEAVE;
        for (int i = 1; i <= 16; i++) setup[i] = "change 0 0 " + (20 + i);
        setup[17] = "count 4";
        for (String call : new String[] {"change 0 0 0", "become 0 0", "swap 0 2", "state 0 0 0 0", "belong 0 4"}) refused(setup, call, BAD);
        for (String call : new String[] {"become 0 5", "swap 0 0", "belong 0 1", "restore 0", "restore 1"}) refused(setup, call, STATE);
    }

    /** A text at fault leaves all but the tape, that is empty then, and what fault() tells. */
    private static void faults() {
        String[] setup = HOUSE.clone();
        setup[17] = "count 5";
        String[] texts = {"", "m", "m4;", "m0c1;", "m0e1e1e1e1e1;", "m0;".repeat(7), "m0;" + "b1,4,6,10,6;".repeat(6), "m3f9;b1,4,6,10,6;b", "m2e9;!"};
        int[] places = {0, 1, 1, 5, 10, 18, 63, 18, 5}, numbers = {1, 1, 2, 4, 1, 3, 3, 1, 1};
        List<Integer> without = look(new Played(setup));
        for (int i = 0; i < texts.length; i++) {
            Played x = new Played(setup);
            x.due("has a fault", "woven " + texts[i], -1000100 - places[i]);
            List<Integer> with = look(x);
            Played.hold("fault() of " + texts[i], with.get(1), numbers[i]);
            with.set(1, without.get(1));
            Played.hold("all else is as it was behind " + texts[i], with.equals(without) ? 1 : 0, 1);
        }
    }

    public static void main(String[] args) {
        lookSees();
        rowsRefused();
        actsRefused();
        runsRefused();
        asksRefused();
        foretold();
        fullTape();
        fullActs();
        faults();
        Played.end();
    }
}
