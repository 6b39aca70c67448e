import java.util.function.Consumer;

/**
 * Where two or three refusals of a call meet, the one that the document lists first is thrown, and
 * nothing is changed. No such subscription has ended, and no schedule that is not there has 20
 * entries, so those do not meet.
 */
public final class RefusalOrderTest {
    private static final int NOTHING = Due.NOTHING;
    private static final int LAST_TIME = 1000000;
    private static final Due due = new Due("RefusalOrderTest");

    public static void main(String[] args) {
        addMeasure();
        addSwitch();
        write();
        command();
        subscribe();
        addSchedule();
        weekly();
        once();
        tells();
        pass();
        due.close();
    }

    private static void promise(int number) {
        due.sentence("Promise " + number + " and Terms",
                "if several apply, the one that it lists first is thrown. "
                + "A call that throws changes nothing.");
    }

    private static void index(String what, Consumer<BuildingPoints> before,
            Consumer<BuildingPoints> call) {
        due.refuses(what, Due.INDEX, before, call);
    }

    private static void argument(String what, Consumer<BuildingPoints> before,
            Consumer<BuildingPoints> call) {
        due.refuses(what, Due.ARGUMENT, before, call);
    }

    private static void sixteenPoints(BuildingPoints x) {
        for (int i = 0; i < 16; i++) {
            x.addSwitch(0, i);
        }
    }

    private static void addMeasure() {
        promise(2);
        for (int value : new int[] {-1001, 1001, NOTHING}) {
            argument("value before 16 points", RefusalOrderTest::sixteenPoints, x -> x.addMeasure(value));
        }
    }

    private static void addSwitch() {
        promise(3);
        for (int value : new int[] {-1, 2, NOTHING}) {
            argument("value before 16 points", RefusalOrderTest::sixteenPoints, x -> x.addSwitch(value, 0));
        }
        for (int least : new int[] {-1, 1001}) {
            argument("least before 16 points", RefusalOrderTest::sixteenPoints, x -> x.addSwitch(1, least));
            argument("value and least before them", RefusalOrderTest::sixteenPoints,
                    x -> x.addSwitch(2, least));
            argument("value and least", x -> { }, x -> x.addSwitch(2, least));
        }
    }

    private static void heldSwitch(BuildingPoints x) {
        x.addSwitch(0, 10);
        x.write(0, 6, 1);
    }

    private static void write() {
        promise(4);
        for (int point : new int[] {-1, 1, 16}) {
            for (int priority : new int[] {0, 17}) {
                index("point before priority", RefusalOrderTest::heldSwitch,
                        x -> x.write(point, priority, 1));
                index("point before priority and value", RefusalOrderTest::heldSwitch,
                        x -> x.write(point, priority, 5000));
            }
            index("point before value", RefusalOrderTest::heldSwitch, x -> x.write(point, 6, 5000));
            index("point before a held command", RefusalOrderTest::heldSwitch, x -> x.write(point, 6, 1));
        }
        for (int value : new int[] {-1, 2, NOTHING + 1, 1000}) {
            argument("value before a held command", RefusalOrderTest::heldSwitch,
                    x -> x.write(0, 6, value));
            argument("priority and value", RefusalOrderTest::heldSwitch, x -> x.write(0, 17, value));
        }
    }

    private static void command() {
        promise(6);
        for (int point : new int[] {-1, 1, 16}) {
            index("point before priority", RefusalOrderTest::heldSwitch, x -> x.command(point, 0));
            index("point before priority", RefusalOrderTest::heldSwitch, x -> x.command(point, 17));
        }
        index("point before priority, on a new object", x -> { }, x -> x.command(0, 0));
    }

    private static void thirtySubscriptions(BuildingPoints x) {
        x.addMeasure(0);
        for (int i = 0; i < 30; i++) {
            x.subscribe(0, 1, 10);
        }
    }

    private static void subscribe() {
        promise(10);
        Consumer<BuildingPoints> full = RefusalOrderTest::thirtySubscriptions;
        for (int point : new int[] {-1, 1, 16}) {
            index("point before increment", x -> x.addMeasure(0), x -> x.subscribe(point, 0, 1));
            index("point before lifetime", x -> x.addMeasure(0), x -> x.subscribe(point, 1, 100001));
            index("point before 30 made", full, x -> x.subscribe(point, 1, 1));
            index("point before all else", full, x -> x.subscribe(point, 2001, 0));
        }
        for (int increment : new int[] {0, 2001}) {
            argument("increment before 30 made", full, x -> x.subscribe(0, increment, 1));
            argument("increment and lifetime before 30 made", full, x -> x.subscribe(0, increment, 0));
        }
        for (int lifetime : new int[] {0, 100001}) {
            argument("lifetime before 30 made", full, x -> x.subscribe(0, 1, lifetime));
        }
    }

    private static void fourSchedules(BuildingPoints x) {
        x.addMeasure(0);
        for (int i = 0; i < 4; i++) {
            x.addSchedule(0, 7 + i);
        }
    }

    private static void addSchedule() {
        promise(15);
        Consumer<BuildingPoints> full = RefusalOrderTest::fourSchedules;
        for (int point : new int[] {-1, 1, 16}) {
            index("point before priority", x -> x.addMeasure(0), x -> x.addSchedule(point, 6));
            index("point before 4 schedules", full, x -> x.addSchedule(point, 7));
            index("point before both", full, x -> x.addSchedule(point, 17));
        }
        for (int priority : new int[] {6, 17}) {
            argument("priority before 4 schedules", full, x -> x.addSchedule(0, priority));
        }
    }

    /** The schedule 0 is one of a measure, the schedule 1 one of a switch; both have 20 entries. */
    private static void fullSchedules(BuildingPoints x) {
        x.addMeasure(0);
        x.addSwitch(0, 10);
        x.addSchedule(0, 9);
        x.addSchedule(1, 9);
        for (int i = 0; i < 10; i++) {
            x.weekly(0, 0, i, i);
            x.once(0, 1, i, i);
            x.weekly(1, 0, i, i % 2);
            x.once(1, 1, i, i % 2);
        }
    }

    private static void weekly() {
        promise(16);
        Consumer<BuildingPoints> full = RefusalOrderTest::fullSchedules;
        for (int schedule : new int[] {-1, 2, 4}) {
            index("schedule before weekday", full, x -> x.weekly(schedule, 7, 0, 1));
            index("schedule before minute", full, x -> x.weekly(schedule, 0, 1440, 1));
            index("schedule before value", full, x -> x.weekly(schedule, 0, 0, 5000));
            index("schedule before all of them", full, x -> x.weekly(schedule, -1, -1, 5000));
        }
        argument("weekday before 20 entries", full, x -> x.weekly(0, -1, 0, 1));
        argument("weekday before 20 entries", full, x -> x.weekly(0, 7, 0, 1));
        argument("minute before 20 entries", full, x -> x.weekly(0, 0, -1, 1));
        argument("minute before 20 entries", full, x -> x.weekly(0, 0, 1440, 1));
        argument("value before 20 entries", full, x -> x.weekly(0, 0, 0, -1001));
        argument("value before 20 entries", full, x -> x.weekly(0, 0, 0, 1001));
        argument("value of a switch before 20 entries", full, x -> x.weekly(1, 0, 0, -1));
        argument("value of a switch before 20 entries", full, x -> x.weekly(1, 0, 0, 2));
    }

    private static void once() {
        promise(17);
        Consumer<BuildingPoints> full = RefusalOrderTest::fullSchedules;
        for (int schedule : new int[] {-1, 2, 4}) {
            index("schedule before day", full, x -> x.once(schedule, 701, 0, 1));
            index("schedule before minute", full, x -> x.once(schedule, 0, 1440, 1));
            index("schedule before value", full, x -> x.once(schedule, 0, 0, 5000));
            index("schedule before all of them", full, x -> x.once(schedule, -1, -1, 5000));
        }
        argument("day before 20 entries", full, x -> x.once(0, -1, 0, 1));
        argument("day before 20 entries", full, x -> x.once(0, 701, 0, 1));
        argument("minute before 20 entries", full, x -> x.once(0, 0, -1, 1));
        argument("minute before 20 entries", full, x -> x.once(0, 0, 1440, 1));
        argument("value before 20 entries", full, x -> x.once(0, 0, 0, -1001));
        argument("value before 20 entries", full, x -> x.once(0, 0, 0, 1001));
        argument("value of a switch before 20 entries", full, x -> x.once(1, 0, 0, -1));
        argument("value of a switch before 20 entries", full, x -> x.once(1, 0, 0, 2));
    }

    private static void tells() {
        promise(18);
        for (int schedule : new int[] {-1, 2, 4}) {
            index("schedule before time", RefusalOrderTest::fullSchedules, x -> x.tells(schedule, -1));
            index("schedule before time", RefusalOrderTest::fullSchedules,
                    x -> x.tells(schedule, LAST_TIME + 1));
        }
        index("schedule before time, on a new object", x -> { }, x -> x.tells(0, -1));
    }

    private static void pass() {
        promise(19);
        for (int left : new int[] {0, 1, 5000}) {
            Consumer<BuildingPoints> before = x -> {
                heldSwitch(x);
                Bounds.passTo(x, LAST_TIME - left);
            };
            argument("minutes before the clock, " + left + " left", before, x -> x.pass(5001));
            argument("most minutes before the clock, " + left + " left", before,
                    x -> x.pass(Integer.MAX_VALUE));
            argument("no minutes, " + left + " left", before, x -> x.pass(0));
        }
    }
}
