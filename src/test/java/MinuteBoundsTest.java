import java.util.function.Consumer;

/** Promises 19 and 20 and what a minute brings, sentence by sentence, with the edges that each names. */
public final class MinuteBoundsTest {
    private static final int NOTHING = Due.NOTHING;
    private static final int DAY = 1440;
    private static final int LAST_TIME = 1000000;
    private static final Due due = new Due("MinuteBoundsTest");
    private static final Bounds bounds = new Bounds(due);

    public static void main(String[] args) {
        minutes();
        notAboveTheLastMinute();
        theClock();
        reportsInTheMinutes();
        reportsToAll();
        theClockGrowsFirst();
        heldCommandsOfAllPoints();
        heldCommandsBeforeSubscriptions();
        heldCommandsBeforeSchedules();
        subscriptionsBeforeSchedules();
        schedulesInEachMinute();
        schedulesByRisingNumbers();
        manyMinutesAreAsManySingleOnes();
        theFullestObjectForAllItsCalls();
        due.close();
    }

    private static void oneOfEach(BuildingPoints x) {
        x.addMeasure(0);
        x.addSwitch(0, 10);
        x.addSchedule(0, 9);
        x.addSchedule(1, 16);
    }

    // ---- promises 19 and 20

    private static void minutes() {
        due.sentence("Promise 19", "minutes: 1 to 5000");
        bounds.range(1, 5000, x -> { }, (x, minutes) -> x.pass(minutes));
        bounds.range(1, 5000, MinuteBoundsTest::oneOfEach, (x, minutes) -> x.pass(minutes));
    }

    private static void notAboveTheLastMinute() {
        due.sentence("Promise 19", "Throws IllegalStateException if the clock would be above 1000000");
        for (int minutes : new int[] {1, 2, 4999, 5000}) {
            Consumer<BuildingPoints> before = x -> Bounds.passTo(x, LAST_TIME - minutes);
            due.takes(minutes + " to the last minute", before, x -> x.pass(minutes));
            if (minutes < 5000) {
                due.refuses(minutes + " and one more", Due.STATE, before, x -> x.pass(minutes + 1));
                due.refuses("5000 where " + minutes + " are left", Due.STATE, before, x -> x.pass(5000));
            }
            BuildingPoints x = new BuildingPoints();
            before.accept(x);
            x.pass(minutes);
            due.is("the clock then", x.clock(), LAST_TIME);
        }
        Consumer<BuildingPoints> atTheEnd = x -> {
            oneOfEach(x);
            Bounds.passTo(x, LAST_TIME);
        };
        due.refuses("a minute more", Due.STATE, atTheEnd, x -> x.pass(1));
        due.refuses("5000 more", Due.STATE, atTheEnd, x -> x.pass(5000));
    }

    private static void theClock() {
        due.sentence("Promise 20", "Returns the clock.");
        BuildingPoints x = new BuildingPoints();
        due.is("at first", x.clock(), 0);
        x.pass(1);
        due.is("after the least minutes", x.clock(), 1);
        x.pass(5000);
        due.is("after the most minutes", x.clock(), 5001);
        oneOfEach(x);
        x.write(1, 6, 1);
        x.weekly(0, 0, 0, 1);
        x.tells(0, LAST_TIME);
        due.is("no other call moves it", x.clock(), 5001);
        Bounds.passTo(x, LAST_TIME);
        due.is("the last", x.clock(), LAST_TIME);
    }

    private static void reportsInTheMinutes() {
        due.sentence("Promise 19", "Returns how many values were reported to all subscriptions in them.");
        BuildingPoints x = new BuildingPoints();
        due.is("without anything", x.pass(1), 0);
        oneOfEach(x);
        due.is("without a subscription", x.pass(1), 0);
        x.subscribe(0, 1, 100000);
        x.write(0, 9, 5);
        due.is("what was reported before does not count", x.pass(1), 0);
        x.weekly(0, 0, 3, 6);
        due.are("nor what a change of a schedule reported", new long[] {2, 0}, () -> x.reports(0),
                () -> x.pass(1));
        x.weekly(0, 0, 6, 7);
        x.weekly(0, 0, 7, 8);
        due.are("in the minutes, the last one too", new long[] {0, 1, 1, 0}, () -> x.pass(1),
                () -> x.pass(1), () -> x.pass(1), () -> x.pass(1));
        due.is("to the first minute of the next day", x.pass(DAY - 8), 1);
        BuildingPoints nothing = new BuildingPoints();
        nothing.addSwitch(0, 1);
        nothing.write(0, 6, 1);
        nothing.subscribe(0, 2, 100);
        due.are("a change that is not reported", new long[] {0, 2}, () -> nothing.pass(1),
                () -> nothing.changes(0));
    }

    private static void reportsToAll() {
        due.sentence("Promise 19", "Returns how many values were reported to all subscriptions in them.");
        BuildingPoints x = new BuildingPoints();
        oneOfEach(x);
        for (int i = 0; i < 30; i++) {
            x.subscribe(0, 1, 100000);
        }
        for (int i = 0; i < 20; i++) {
            x.weekly(0, i % 7, i / 7 * 100 + 1, i + 1);
        }
        due.is("one value to thirty", x.pass(1), 30);
        due.is("two more of the day", x.pass(300), 60);
        x.end(29);
        due.is("to those that go on", x.pass(DAY - 301), 29);
        due.is("of three days", x.pass(3 * DAY), 3 * 4 * 29);
    }

    // ---- a minute

    private static void theClockGrowsFirst() {
        due.sentence("A minute", "When a minute passes: the clock grows by 1");
        BuildingPoints x = new BuildingPoints();
        x.addSwitch(0, 1000);
        x.write(0, 6, 1);
        x.pass(1000);
        due.are("what begins in it is held from the new minute on", new long[] {0, 1000, 2},
                () -> x.value(0), () -> x.held(0), () -> x.changes(0));
        x.pass(999);
        due.is("to its last", x.held(0), 1);
        x.pass(1);
        due.is("and no longer", x.held(0), 0);
        BuildingPoints y = new BuildingPoints();
        oneOfEach(y);
        y.weekly(0, 0, 1, 5);
        y.weekly(0, 0, 2, 6);
        due.are("schedules tell of the new minute", new long[] {0, 5}, () -> y.pass(1),
                () -> y.value(0));
    }

    private static void heldCommandsOfAllPoints() {
        due.sentence("A minute", "then held commands whose time has passed are taken away, "
                + "by rising points");
        BuildingPoints x = new BuildingPoints();
        for (int i = 0; i < 16; i++) {
            x.addSwitch(0, i < 15 ? 5 : 6);
            x.subscribe(i, 1, 100);
            x.write(i, 6, 1);
        }
        due.is("not yet", x.pass(4), 0);
        due.is("of the first to the last but one", x.pass(1), 15);
        due.are("at their ends", new long[] {0, 5, 0, 5, 1, 1}, () -> x.value(0), () -> x.held(0),
                () -> x.value(14), () -> x.held(14), () -> x.value(15), () -> x.held(15));
        due.is("of the last", x.pass(1), 1);
        due.are("at its end", new long[] {0, 6, 4}, () -> x.value(15), () -> x.held(15),
                () -> x.held(14));
    }

    private static void heldCommandsBeforeSubscriptions() {
        due.sentence("A minute", "then held commands whose time has passed are taken away, by rising "
                + "points; then subscriptions end whose lifetime has passed");
        BuildingPoints x = new BuildingPoints();
        x.addSwitch(0, 5);
        x.write(0, 6, 1);
        x.subscribe(0, 1, 4);
        x.subscribe(0, 1, 5);
        x.subscribe(0, 1, 6);
        due.is("the one that ends in the same minute is told still", x.pass(5), 2);
        due.are("each", new long[] {0, 1, 1}, () -> x.reports(0), () -> x.reports(1),
                () -> x.reports(2));
        due.are("but goes on no more", new long[] {0, 0, 1}, () -> x.goesOn(0) ? 1 : 0,
                () -> x.goesOn(1) ? 1 : 0, () -> x.goesOn(2) ? 1 : 0);
    }

    private static void heldCommandsBeforeSchedules() {
        due.sentence("A minute", "then held commands whose time has passed are taken away");
        BuildingPoints x = new BuildingPoints();
        x.addSwitch(0, 10);
        x.addSchedule(0, 7);
        x.weekly(0, 0, 10, 1);
        x.write(0, 6, 1);
        x.pass(10);
        due.are("what the schedule writes comes behind the command that is held anew",
                new long[] {0, 10, 1, 2}, () -> x.value(0), () -> x.held(0), () -> x.command(0, 7),
                () -> x.changes(0));
        BuildingPoints y = new BuildingPoints();
        y.addSwitch(0, 10);
        y.addSchedule(0, 7);
        y.weekly(0, 0, 9, 1);
        y.write(0, 6, 1);
        y.pass(10);
        due.are("a minute earlier it keeps the value", new long[] {1, 0, 1, 1}, () -> y.value(0),
                () -> y.held(0), () -> y.command(0, 7), () -> y.changes(0));
    }

    private static void subscriptionsBeforeSchedules() {
        due.sentence("A minute", "then subscriptions end whose lifetime has passed; "
                + "then the schedules write.");
        BuildingPoints x = new BuildingPoints();
        oneOfEach(x);
        x.weekly(0, 0, 5, 50);
        x.subscribe(0, 1, 5);
        x.subscribe(0, 1, 6);
        due.is("the one that ends in the same minute is not told", x.pass(5), 1);
        due.are("each", new long[] {0, 0, 1, 50}, () -> x.reports(0), () -> x.reported(0),
                () -> x.reports(1), () -> x.reported(1));
    }

    private static void schedulesInEachMinute() {
        due.sentence("Schedules", "When time passes, for each minute");
        BuildingPoints x = new BuildingPoints();
        oneOfEach(x);
        x.once(0, 0, 1, 5);
        x.once(0, 0, 2, NOTHING);
        x.once(0, 0, 3, 6);
        x.once(0, 0, 1439, 7);
        x.weekly(0, 1, 0, 8);
        x.pass(2);
        due.are("at once after another", new long[] {2, 0}, () -> x.changes(0), () -> x.value(0));
        x.pass(1);
        due.are("the next", new long[] {3, 6}, () -> x.changes(0), () -> x.value(0));
        x.pass(DAY - 3);
        due.is("the last minute of a day, and the first of the next", x.changes(0), 5);
        due.is("over the end of a day", x.value(0), 8);
    }

    private static void schedulesByRisingNumbers() {
        due.sentence("Schedules", "Schedules are gone through by rising numbers.");
        BuildingPoints same = new BuildingPoints();
        same.addMeasure(0);
        for (int i = 0; i < 4; i++) {
            same.addSchedule(0, 9);
            same.weekly(i, 0, 5, 50 + i);
        }
        same.pass(5);
        due.are("at one priority the last one's command stays", new long[] {53, 4}, () -> same.value(0),
                () -> same.changes(0));
        BuildingPoints rising = new BuildingPoints();
        rising.addMeasure(0);
        for (int i = 0; i < 4; i++) {
            rising.addSchedule(0, 16 - i);
            rising.weekly(i, 0, 5, 50 + i);
        }
        rising.pass(5);
        due.are("at lower and lower ones each changes the value", new long[] {53, 4},
                () -> rising.value(0), () -> rising.changes(0));
        BuildingPoints falling = new BuildingPoints();
        falling.addMeasure(0);
        for (int i = 0; i < 4; i++) {
            falling.addSchedule(0, 7 + i);
            falling.weekly(i, 0, 5, 50 + i);
        }
        falling.pass(5);
        due.are("at higher and higher ones only the first does", new long[] {50, 1},
                () -> falling.value(0), () -> falling.changes(0));
    }

    private static void manyMinutesAreAsManySingleOnes() {
        due.sentence("Promise 19", "Lets minutes pass.");
        BuildingPoints many = new BuildingPoints();
        BuildingPoints single = new BuildingPoints();
        swinging(many);
        swinging(single);
        int reported = 0;
        for (int i = 0; i < 200; i++) {
            reported += single.pass(1);
        }
        due.is("reports", many.pass(200), reported);
        due.is("and all else", Picture.of(many), Picture.of(single));
    }

    private static void swinging(BuildingPoints x) {
        oneOfEach(x);
        x.write(1, 6, 1);
        x.subscribe(0, 3, 60);
        x.subscribe(1, 1, 90);
        for (int i = 0; i < 20; i++) {
            x.weekly(0, 0, 1 + i * 9, i * i % 11);
            x.weekly(1, 0, 1 + i * 7, i % 2);
        }
    }

    // ---- as many calls, and as much of everything, as there may be

    private static void theFullestObjectForAllItsCalls() {
        due.sentence("What it is", "An object is used for at most 512 calls after it has been made");
        BuildingPoints x = new BuildingPoints();
        Model model = new Model();
        int calls = fill(x, model);
        int rest = 0;
        while (calls < 512) {
            String[] asked = {"pass", "value", "held", "changes", "reports", "reported", "command"};
            String call = asked[rest % asked.length];
            int number = rest / asked.length * 5;
            int[] a = call.equals("pass") ? new int[] {5000, 0} : new int[] {number % 16, 6};
            same(x, model, call, a);
            rest++;
            calls++;
        }
    }

    private static int fill(BuildingPoints x, Model model) {
        int calls = 0;
        for (int i = 0; i < 16; i++, calls++) {
            same(x, model, i < 4 ? "addMeasure" : "addSwitch", i % 2, i);
        }
        for (int i = 0; i < 30; i++, calls++) {
            same(x, model, "subscribe", i % 16, 1, 100000);
        }
        for (int i = 0; i < 4; i++, calls++) {
            same(x, model, "addSchedule", i * 5, 7 + i * 3);
        }
        for (int i = 0; i < 80; i++, calls++) {
            same(x, model, i < 60 ? "weekly" : "once", i % 4, i % 7, i * 17, i / 4 % 2);
        }
        for (int i = 0; i < 16; i++, calls++) {
            same(x, model, "write", i, 6, 1 - i % 2);
        }
        return calls;
    }

    private static void same(BuildingPoints x, Model model, String call, int... a) {
        due.is(call, Face.answer(x, call, a), model.answer(call, a));
    }
}
