import java.util.ArrayList;
import java.util.List;
import java.util.TreeMap;

/**
 * The document's words once more, in the plainest form that the Java library allows, to compare
 * the class with in long runs. It shares no code with the class.
 */
final class Model {
    private static final int NOTHING = -100000;

    private static final class Dot {
        boolean toggles;
        int usual;
        int least;
        TreeMap<Integer, Integer> commands = new TreeMap<>();
        Integer minutesLeft;
        int changed;

        int worth() {
            return commands.isEmpty() ? usual : commands.firstEntry().getValue();
        }

        boolean fits(int number) {
            return toggles ? number == 0 || number == 1 : -1000 <= number && number <= 1000;
        }
    }

    private static final class Follower {
        int dot;
        int step;
        int minutesLeft;
        List<Integer> heard = new ArrayList<>();
        boolean over;
    }

    private record Entry(boolean single, int day, int minute, int told) {
    }

    private static final class Plan {
        int dot;
        int priority;
        List<Entry> entries = new ArrayList<>();
        int last = NOTHING;

        int says(int time) {
            int day = time / 1440;
            boolean exception = false;
            for (Entry e : entries) {
                exception |= e.single && e.day == day;
            }
            TreeMap<Integer, Integer> byMinute = new TreeMap<>();
            for (Entry e : entries) {
                if (e.single == exception && e.day == (exception ? day : day % 7)) {
                    byMinute.put(e.minute, e.told);
                }
            }
            var found = byMinute.floorEntry(time % 1440);
            return found == null ? NOTHING : found.getValue();
        }
    }

    private final List<Dot> dots = new ArrayList<>();
    private final List<Follower> followers = new ArrayList<>();
    private final List<Plan> plans = new ArrayList<>();
    private int minute;
    private int heardByAll;

    /** The answer of a call of the face, named as there; a boolean counts 1 or 0, and end answers 0. */
    int answer(String call, int[] a) {
        switch (call) {
            case "addMeasure": return addDot(false, a[0], 0);
            case "addSwitch": return addDot(true, a[0], a[1]);
            case "write": return write(a[0], a[1], a[2]);
            case "value": return dot(a[0]).worth();
            case "command": return command(a[0], a[1]);
            case "standing": return dot(a[0]).commands.isEmpty() ? 17 : dot(a[0]).commands.firstKey();
            case "held": return dot(a[0]).minutesLeft == null ? 0 : dot(a[0]).minutesLeft;
            case "changes": return dot(a[0]).changed;
            case "subscribe": return subscribe(a[0], a[1], a[2]);
            case "end": return end(a[0]);
            case "goesOn": return follower(a[0]).over ? 0 : 1;
            case "reports": return follower(a[0]).heard.size() - 1;
            case "reported": return follower(a[0]).heard.get(follower(a[0]).heard.size() - 1);
            case "addSchedule": return addPlan(a[0], a[1]);
            case "weekly": return addEntry(a[0], new Entry(false, a[1], a[2], a[3]), 6);
            case "once": return addEntry(a[0], new Entry(true, a[1], a[2], a[3]), 700);
            case "tells": return tells(a[0], a[1]);
            case "pass": return pass(a[0]);
            case "clock": return minute;
            default: throw new Error(call);
        }
    }

    private static void argument(boolean right) {
        if (!right) {
            throw new IllegalArgumentException();
        }
    }

    private static void state(boolean right) {
        if (!right) {
            throw new IllegalStateException();
        }
    }

    private static <T> T among(List<T> all, int number) {
        if (number < 0 || number >= all.size()) {
            throw new IndexOutOfBoundsException();
        }
        return all.get(number);
    }

    private Dot dot(int number) {
        return among(dots, number);
    }

    private Follower follower(int number) {
        return among(followers, number);
    }

    private int addDot(boolean toggles, int usual, int least) {
        Dot made = new Dot();
        made.toggles = toggles;
        made.usual = usual;
        made.least = least;
        argument(made.fits(usual) && 0 <= least && least <= 1000);
        state(dots.size() < 16);
        dots.add(made);
        return dots.size() - 1;
    }

    private int write(int number, int priority, int told) {
        Dot d = dot(number);
        argument(1 <= priority && priority <= 16 && (told == NOTHING || d.fits(told)));
        state(priority != 6 || d.minutesLeft == null);
        set(number, priority, told);
        return d.worth();
    }

    private int command(int number, int priority) {
        Dot d = dot(number);
        argument(1 <= priority && priority <= 16);
        return d.commands.getOrDefault(priority, NOTHING);
    }

    private void set(int number, int priority, int told) {
        Dot d = dot(number);
        int before = d.worth();
        if (told == NOTHING) {
            d.commands.remove(priority);
        } else {
            d.commands.put(priority, told);
        }
        int after = d.worth();
        if (before == after) {
            return;
        }
        d.changed++;
        if (d.toggles && d.least > 0) {
            d.commands.put(6, after);
            d.minutesLeft = d.least;
        }
        for (Follower f : followers) {
            int heard = f.heard.get(f.heard.size() - 1);
            if (!f.over && f.dot == number && (after >= heard + f.step || after <= heard - f.step)) {
                f.heard.add(after);
                heardByAll++;
            }
        }
    }

    private int subscribe(int number, int step, int lifetime) {
        Dot d = dot(number);
        argument(1 <= step && step <= 2000 && 1 <= lifetime && lifetime <= 100000);
        state(followers.size() < 30);
        Follower f = new Follower();
        f.dot = number;
        f.step = step;
        f.minutesLeft = lifetime;
        f.heard.add(d.worth());
        followers.add(f);
        return followers.size() - 1;
    }

    private int end(int number) {
        Follower f = follower(number);
        state(!f.over);
        f.over = true;
        return 0;
    }

    private int addPlan(int number, int priority) {
        dot(number);
        argument(7 <= priority && priority <= 16);
        state(plans.size() < 4);
        Plan made = new Plan();
        made.dot = number;
        made.priority = priority;
        plans.add(made);
        return plans.size() - 1;
    }

    private int addEntry(int number, Entry e, int lastDay) {
        Plan p = among(plans, number);
        argument(0 <= e.day && e.day <= lastDay && 0 <= e.minute && e.minute <= 1439);
        argument(e.told == NOTHING || dot(p.dot).fits(e.told));
        state(p.entries.size() < 20);
        p.entries.add(e);
        allPlansWrite();
        return p.says(minute);
    }

    private int tells(int number, int time) {
        Plan p = among(plans, number);
        argument(0 <= time && time <= 1000000);
        return p.says(time);
    }

    private void allPlansWrite() {
        for (Plan p : plans) {
            int now = p.says(minute);
            if (now != p.last) {
                p.last = now;
                set(p.dot, p.priority, now);
            }
        }
    }

    private int pass(int minutes) {
        argument(1 <= minutes && minutes <= 5000);
        state(minute + minutes <= 1000000);
        int before = heardByAll;
        for (int i = 0; i < minutes; i++) {
            minute++;
            for (int number = 0; number < dots.size(); number++) {
                Dot d = dots.get(number);
                if (d.minutesLeft != null && --d.minutesLeft == 0) {
                    d.minutesLeft = null;
                    set(number, 6, NOTHING);
                }
            }
            for (Follower f : followers) {
                f.over |= --f.minutesLeft <= 0;
            }
            allPlansWrite();
        }
        return heardByAll - before;
    }
}
