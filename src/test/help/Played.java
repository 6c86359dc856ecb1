import java.lang.reflect.InvocationTargetException;
import java.lang.reflect.Method;
import java.lang.reflect.Modifier;
import java.util.Map;
import java.util.TreeMap;

/**
 * An object of WovenCalls whose calls are told as texts: "row 0 0 40", "text m0;" (all its letters are fed),
 * "woven m0;" (fed and woven). It counts its calls, since nothing is promised behind the 512th.
 */
final class Played {
    static final int NONE = -1000000, BAD = -1000001, STATE = -1000002, FULL = -1000003;
    static final int NULL = -1000011, PLACE = -1000012, KIND = -1000013, SIZE = -1000014, STORE = -1000015;
    static final int LOW = Integer.MIN_VALUE, HIGH = Integer.MAX_VALUE;
    private static final int MOST_CALLS = 512;
    private static final Map<String, Method> FACE = new TreeMap<>();
    private static int wrong = 0;

    static {
        for (Method m : WovenCalls.class.getDeclaredMethods()) {
            if (Modifier.isPublic(m.getModifiers())) FACE.put(m.getName(), m);
        }
    }

    private final WovenCalls object = new WovenCalls();
    private int calls = 0;

    Played(String... steps) {
        for (String step : steps) call(step);
    }

    int call(String told) {
        int blank = told.indexOf(' ');
        String name = blank < 0 ? told : told.substring(0, blank);
        String rest = blank < 0 ? "" : told.substring(blank + 1);
        if (name.equals("text")) return fed(rest);
        if (name.equals("woven")) {
            fed(rest);
            return called("weave");
        }
        String[] words = rest.isEmpty() ? new String[0] : rest.split(" ");
        Object[] args = new Object[words.length];
        for (int i = 0; i < args.length; i++) args[i] = Integer.valueOf(words[i]);
        return called(name, args);
    }

    private int fed(String text) {
        int answer = called("count", 5);
        for (char letter : text.toCharArray()) answer = called("feed", (int) letter);
        return answer;
    }

    private int called(String name, Object... args) {
        calls++;
        if (calls > MOST_CALLS) throw new IllegalStateException("the test makes more than 512 calls on one object");
        try {
            return (Integer) FACE.get(name).invoke(object, args);
        } catch (IllegalAccessException | InvocationTargetException e) {
            throw new IllegalStateException(name, e);
        }
    }

    int callsLeft() {
        return MOST_CALLS - calls;
    }

    void due(String sentence, String told, int want) {
        hold(sentence + ": " + told, call(told), want);
    }

    static void hold(String what, int got, int want) {
        if (got == want) return;
        wrong++;
        System.out.println(what + " answered " + got + ", due is " + want);
    }

    /** Calls on a new object, each followed by the answer that is due. */
    static void scene(String sentence, Object... steps) {
        Played x = new Played();
        for (int i = 0; i + 1 < steps.length; i += 2) x.due(sentence, (String) steps[i], (Integer) steps[i + 1]);
    }

    /** The number in place of @ is refused just outside of its bounds, and far outside, but not within them. */
    static void bounds(String[] setup, String told, int least, int most, int below, int above) {
        for (int v : new int[] {least, least + (least < most ? 1 : 0), most - (least < most ? 1 : 0), most}) {
            int got = with(setup, told, v);
            if (got == below || got == above || got == BAD) hold(told + " by " + v + " is taken:", got, 0);
        }
        if (least > LOW) hold(told + " by " + (least - 1), with(setup, told, least - 1), below);
        if (least > LOW) hold(told + " by the lowest", with(setup, told, LOW), below);
        if (most < HIGH) hold(told + " by " + (most + 1), with(setup, told, most + 1), above);
        if (most < HIGH) hold(told + " by the highest", with(setup, told, HIGH), above);
    }

    static void bounds(String[] setup, String told, int least, int most) {
        bounds(setup, told, least, most, BAD, BAD);
    }

    private static int with(String[] setup, String told, int v) {
        return new Played(setup).call(told.replace("@", "" + v));
    }

    static void end() {
        System.out.println(wrong == 0 ? "all answers are as due" : wrong + " answers are not as due");
        if (wrong != 0) System.exit(1);
    }
}
