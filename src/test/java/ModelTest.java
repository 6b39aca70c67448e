import java.util.Arrays;

/** Long runs of calls, with right and wrong arguments, each answer compared with the model's. */
public final class ModelTest {
    private static final String[] CALLS = {
        "addMeasure", "addSwitch", "write", "value", "command", "standing", "held", "changes",
        "subscribe", "end", "goesOn", "reports", "reported", "addSchedule", "weekly", "once",
        "tells", "pass", "clock"};
    // How often each of them is called, of 100.
    private static final int[] WEIGHTS = {2, 3, 24, 4, 4, 3, 4, 3, 4, 1, 2, 3, 3, 2, 10, 9, 4, 14, 1};
    private static final int RUNS = 400;
    private static final int RUN_CALLS = 500;
    private static final int NOTHING = Due.NOTHING;

    private final Due due = new Due("ModelTest");
    private long state = 20261119;

    public static void main(String[] args) {
        ModelTest test = new ModelTest();
        for (int run = 0; run < RUNS; run++) {
            test.oneRun(run);
        }
        test.due.close();
    }

    private void oneRun(int run) {
        BuildingPoints x = new BuildingPoints();
        Model model = new Model();
        int clock = 0;
        for (int i = 0; i < RUN_CALLS; i++) {
            String call = i < 6 ? CALLS[new int[] {0, 1, 1, 13, 13, 8}[i]] : CALLS[anyCall()];
            int[] a = arguments(call, clock, run % 4 == 0);
            String want = told(() -> model.answer(call, a));
            due.is("run " + run + ", call " + i + ", " + call + Arrays.toString(a),
                    told(() -> Face.answer(x, call, a)), want);
            if (call.equals("pass") && !want.startsWith("java")) {
                clock += a[0];
            }
        }
    }

    private interface Asked {
        int answer();
    }

    private static String told(Asked asked) {
        try {
            return "" + asked.answer();
        } catch (RuntimeException e) {
            return e.getClass().getName();
        }
    }

    private int anyCall() {
        int place = below(100);
        int call = 0;
        while (place >= WEIGHTS[call]) {
            place -= WEIGHTS[call];
            call++;
        }
        return call;
    }

    private int below(int bound) {
        state = state * 6364136223846793005L + 1442695040888963407L;
        return (int) ((state >>> 33) % bound);
    }

    private int[] arguments(String call, int clock, boolean longPasses) {
        int[] a = new int[4];
        switch (call) {
            case "addMeasure": set(a, amount()); break;
            case "addSwitch": set(a, below(2), pick(0, 1, 3, 10, 60, 1000)); break;
            case "write": set(a, number(4), pick(1, 2, 5, 6, 6, 7, 8, 9, 16), amount()); break;
            case "command": set(a, number(4), pick(1, 5, 6, 6, 8, 9, 16)); break;
            case "subscribe": set(a, number(4), pick(1, 1, 2, 50, 2000), pick(1, 5, 60, 3000, 100000)); break;
            case "addSchedule": set(a, number(3), pick(7, 8, 9, 16)); break;
            case "weekly": set(a, number(4), soonDay(clock) % 7, soonMinute(clock), amount()); break;
            case "once": set(a, number(4), soonDay(clock), soonMinute(clock), amount()); break;
            case "tells": set(a, number(4), Math.min(clock + below(20000), 1000000)); break;
            case "pass": set(a, longPasses ? pick(1, 500, 1440, 5000) : pick(1, 1, 2, 3, 9, 60, 400)); break;
            default: set(a, number(4)); break;
        }
        if (below(12) == 0) {
            a[below(4)] = pick(-1, 0, 17, 20, 21, 1440, 5001, 2001, 1001, -1001, NOTHING, 100001,
                    1000001, Integer.MIN_VALUE, Integer.MAX_VALUE);
        }
        return a;
    }

    private static void set(int[] a, int... wanted) {
        System.arraycopy(wanted, 0, a, 0, wanted.length);
    }

    private int pick(int... from) {
        return from[below(from.length)];
    }

    private int number(int bound) {
        return below(10) == 0 ? below(32) : below(bound);
    }

    /** A value that a switch can have, mostly, as each call may meet a switch or a measure. */
    private int amount() {
        return pick(0, 1, 0, 1, 0, 1, NOTHING, NOTHING, NOTHING, 2, 3, -1000, 1000, below(100));
    }

    private int soonDay(int clock) {
        return Math.min(clock / 1440 + below(3), 700);
    }

    private int soonMinute(int clock) {
        return below(3) == 0 ? below(1440) : (clock + below(20)) % 1440;
    }
}
