import java.util.Set;
import java.util.TreeSet;

/** What a test of one sentence asks with: answers that are due, and calls that are refused and change nothing. */
abstract class Asking {
    interface Making {
        CabinetTable make();
    }

    interface Call {
        int on(CabinetTable x);
    }

    static final int BAD = -1000000001, NO = -1000000002, FULL = -1000000003, NONE = -1000000005;
    static final int NOTHING = -1000000011, KIND = -1000000012, INDEX = -1000000013, SIZE = -1000000014;
    static final int MIN = Integer.MIN_VALUE, MAX = Integer.MAX_VALUE;

    static int asked;
    static int wrong;
    /** The answers that were due since the set was last cleared. */
    static final Set<Integer> WANTED = new TreeSet<>();

    static void due(int want, int got) {
        asked++;
        WANTED.add(want);
        if (want != got) {
            fault("answered " + got + ", due is " + want);
        }
    }

    static void dueAll(int[] want, int[] got) {
        due(want.length, got.length);
        for (int i = 0; i < Math.min(want.length, got.length); i++) {
            due(want[i], got[i]);
        }
    }

    /** Each call is refused so, and all that can be seen of the object is as if it had not been made. */
    static void refused(int want, Making situation, Call... calls) {
        int[][] before = View.pages(situation);
        for (Call call : calls) {
            due(want, call.on(situation.make()));
            same(before, View.pages(situation, call));
        }
    }

    /** The call is refused so, and the object is then as another one that was made for it. */
    static void refusedAs(Making reference, int want, Making situation, Call call) {
        due(want, call.on(situation.make()));
        same(View.pages(reference), View.pages(situation, call));
    }

    static void same(int[][] before, int[][] after) {
        for (int page = 0; page < before.length; page++) {
            asked++;
            int place = java.util.Arrays.mismatch(before[page], after[page]);
            if (place >= 0) {
                fault("something changed, seen on page " + page + " at " + place);
            }
        }
    }

    static boolean differ(int[][] one, int[][] other) {
        return !java.util.Arrays.deepEquals(one, other);
    }

    static void fault(String what) {
        wrong++;
        String line = "";
        for (StackTraceElement frame : new Throwable().getStackTrace()) {
            if (frame.getClassName().startsWith("Bounds") && !frame.getClassName().equals("BoundsTest")) {
                line = frame.getFileName() + ", line " + frame.getLineNumber();
            }
        }
        System.out.println(line + ": " + what);
    }
}
