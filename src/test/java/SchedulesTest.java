/** Promises 15 to 20: schedules, and the minutes that pass. */
public final class SchedulesTest {
    private static final int NOTHING = Due.NOTHING;
    private static final int DAY = 1440;
    private static final Due due = new Due("SchedulesTest");

    public static void main(String[] args) {
        addSchedule();
        addScheduleRefuses();
        weekly();
        weeklyWritesOnlyWhatDiffers();
        weeklyRefuses();
        once();
        onceRefuses();
        twentyEntries();
        tells();
        tellsRefuses();
        pass();
        passWritesEachMinute();
        schedulesByRisingNumbers();
        heldBeforeSchedules();
        passRefuses();
        clock();
        due.close();
    }

    private static void oneOfEach(BuildingPoints x) {
        x.addMeasure(0);
        x.addSwitch(0, 10);
        x.addSchedule(0, 9);
        x.addSchedule(1, 16);
    }

    private static void addSchedule() {
        BuildingPoints x = new BuildingPoints();
        x.addMeasure(3);
        x.write(0, 7, 8);
        due.are("15 numbers", new long[] {0, 1, 2, 3}, () -> x.addSchedule(0, 7), () -> x.addSchedule(0, 16),
                () -> x.addSchedule(0, 7), () -> x.addSchedule(0, 10));
        due.are("15 without entries it tells nothing and writes nothing", new long[] {NOTHING, NOTHING, 0, 8},
                () -> x.tells(0, 0), () -> x.tells(3, 1000000), () -> x.pass(5000), () -> x.command(0, 7));
        due.is("15 the 5th throws", Due.thrownBy(() -> x.addSchedule(0, 7)), Due.STATE.getName());
        due.is("15 the priority comes first", Due.thrownBy(() -> x.addSchedule(0, 6)),
                Due.ARGUMENT.getName());
        due.is("15 the point comes first", Due.thrownBy(() -> x.addSchedule(1, 6)), Due.INDEX.getName());
        due.is("15 there is no 5th", Due.thrownBy(() -> x.tells(4, 0)), Due.INDEX.getName());
    }

    private static void addScheduleRefuses() {
        for (int wrong : new int[] {-1, 2, 16, Integer.MIN_VALUE, Integer.MAX_VALUE}) {
            due.refuses("15 point " + wrong, Due.INDEX, SchedulesTest::oneOfEach,
                    x -> x.addSchedule(wrong, 0));
        }
        for (int wrong : new int[] {-1, 0, 1, 6, 17, Integer.MIN_VALUE, Integer.MAX_VALUE}) {
            due.refuses("15 priority " + wrong, Due.ARGUMENT, SchedulesTest::oneOfEach,
                    x -> x.addSchedule(0, wrong));
        }
    }

    private static void weekly() {
        BuildingPoints x = new BuildingPoints();
        oneOfEach(x);
        due.is("16 for another weekday", x.weekly(0, 6, 0, 5), NOTHING);
        due.is("16 for later", x.weekly(0, 0, 1439, 6), NOTHING);
        due.is("16 nothing was written", x.command(0, 9), NOTHING);
        due.is("16 for now", x.weekly(0, 0, 0, -1000), -1000);
        due.are("16 written at once", new long[] {-1000, -1000, 9},
                () -> x.value(0), () -> x.command(0, 9), () -> x.standing(0));
        due.is("16 the one added last counts", x.weekly(0, 0, 0, 1000), 1000);
        due.is("16 it is written", x.value(0), 1000);
        due.is("16 nothing at the same minute", x.weekly(0, 0, 0, NOTHING), NOTHING);
        due.is("16 relinquished", x.command(0, 9), NOTHING);
        due.is("16 a switch", x.weekly(1, 0, 0, 1), 1);
        due.are("16 the switch is held", new long[] {1, 10, 1},
                () -> x.value(1), () -> x.held(1), () -> x.command(1, 16));
        x.pass(100);
        due.is("16 an earlier minute", x.weekly(0, 0, 50, 7), 7);
        due.is("16 this minute", x.weekly(0, 0, 100, 8), 8);
        due.is("16 between, it does not count", x.weekly(0, 0, 99, 9), 8);
        due.is("16 the next minute, not yet", x.weekly(0, 0, 101, 10), 8);
        x.pass(1);
        due.is("16 then it is", x.value(0), 10);
    }

    private static void weeklyWritesOnlyWhatDiffers() {
        BuildingPoints x = new BuildingPoints();
        oneOfEach(x);
        x.weekly(0, 0, 0, 5);
        x.write(0, 9, 77);
        due.is("16 the same as told last", x.weekly(0, 3, 0, 6), 5);
        due.is("16 not written again", x.value(0), 77);
        x.weekly(0, 0, 0, 5);
        x.pass(10);
        due.is("16 nor by the minutes", x.value(0), 77);
        x.weekly(0, 0, 0, NOTHING);
        due.is("16 another is written", x.command(0, 9), NOTHING);
        x.write(0, 9, 78);
        x.weekly(0, 0, 0, NOTHING);
        due.is("16 nothing, as told last", x.value(0), 78);
    }

    private static void weeklyRefuses() {
        for (int wrong : new int[] {-1, 2, 4, Integer.MIN_VALUE, Integer.MAX_VALUE}) {
            due.refuses("16 schedule " + wrong, Due.INDEX, SchedulesTest::oneOfEach,
                    x -> x.weekly(wrong, -1, -1, 5000));
        }
        for (int wrong : new int[] {-1, 7, Integer.MIN_VALUE, Integer.MAX_VALUE}) {
            due.refuses("16 weekday " + wrong, Due.ARGUMENT, SchedulesTest::oneOfEach,
                    x -> x.weekly(0, wrong, 0, 1));
        }
        for (int wrong : new int[] {-1, 1440, Integer.MIN_VALUE, Integer.MAX_VALUE}) {
            due.refuses("16 minute " + wrong, Due.ARGUMENT, SchedulesTest::oneOfEach,
                    x -> x.weekly(0, 0, wrong, 1));
        }
        for (int wrong : new int[] {-1001, 1001, NOTHING + 1, NOTHING - 1}) {
            due.refuses("16 value " + wrong, Due.ARGUMENT, SchedulesTest::oneOfEach,
                    x -> x.weekly(0, 0, 0, wrong));
        }
        for (int wrong : new int[] {-1, 2}) {
            due.refuses("16 value of a switch " + wrong, Due.ARGUMENT, SchedulesTest::oneOfEach,
                    x -> x.weekly(1, 0, 0, wrong));
        }
    }

    private static void once() {
        BuildingPoints x = new BuildingPoints();
        oneOfEach(x);
        x.weekly(0, 0, 0, 5);
        due.is("17 another day", x.once(0, 700, 0, 6), 5);
        due.is("17 the same weekday, another day", x.once(0, 7, 0, 7), 5);
        due.is("17 later today, and the weekday counts no more", x.once(0, 0, 30, 8), NOTHING);
        due.is("17 relinquished", x.command(0, 9), NOTHING);
        due.is("17 today", x.once(0, 0, 0, 9), 9);
        due.is("17 written", x.value(0), 9);
        due.is("17 the one added last", x.once(0, 0, 0, NOTHING), NOTHING);
        due.is("17 of the greatest minute", x.once(0, 0, 1439, 10), NOTHING);
        x.pass(30);
        due.is("17 in time", x.value(0), 8);
        due.is("17 an earlier minute added later", x.once(0, 0, 29, 11), 8);
        due.is("17 a switch", x.once(1, 0, 30, 1), 1);
        due.is("17 the switch is held", x.held(1), 10);
    }

    private static void onceRefuses() {
        for (int wrong : new int[] {-1, 2, 4, Integer.MIN_VALUE, Integer.MAX_VALUE}) {
            due.refuses("17 schedule " + wrong, Due.INDEX, SchedulesTest::oneOfEach,
                    x -> x.once(wrong, -1, -1, 5000));
        }
        for (int wrong : new int[] {-1, 701, Integer.MIN_VALUE, Integer.MAX_VALUE}) {
            due.refuses("17 day " + wrong, Due.ARGUMENT, SchedulesTest::oneOfEach,
                    x -> x.once(0, wrong, 0, 1));
        }
        for (int wrong : new int[] {-1, 1440, Integer.MIN_VALUE, Integer.MAX_VALUE}) {
            due.refuses("17 minute " + wrong, Due.ARGUMENT, SchedulesTest::oneOfEach,
                    x -> x.once(0, 0, wrong, 1));
        }
        for (int wrong : new int[] {-1001, 1001, NOTHING + 1, NOTHING - 1}) {
            due.refuses("17 value " + wrong, Due.ARGUMENT, SchedulesTest::oneOfEach,
                    x -> x.once(0, 0, 0, wrong));
        }
        for (int wrong : new int[] {-1, 2}) {
            due.refuses("17 value of a switch " + wrong, Due.ARGUMENT, SchedulesTest::oneOfEach,
                    x -> x.once(1, 0, 0, wrong));
        }
    }

    private static void fullSchedule(BuildingPoints x) {
        oneOfEach(x);
        for (int i = 0; i < 10; i++) {
            x.weekly(0, 0, 0, i);
            x.once(0, 1, 0, i);
        }
    }

    private static void twentyEntries() {
        due.refuses("16 the 21st entry", Due.STATE, SchedulesTest::fullSchedule, x -> x.weekly(0, 0, 0, 50));
        due.refuses("17 the 21st entry", Due.STATE, SchedulesTest::fullSchedule, x -> x.once(0, 0, 0, 50));
        due.refuses("16 the weekday comes first", Due.ARGUMENT, SchedulesTest::fullSchedule,
                x -> x.weekly(0, 7, 0, 50));
        due.refuses("16 the value comes first", Due.ARGUMENT, SchedulesTest::fullSchedule,
                x -> x.weekly(0, 0, 0, 1001));
        due.refuses("17 the minute comes first", Due.ARGUMENT, SchedulesTest::fullSchedule,
                x -> x.once(0, 0, 1440, 50));
        BuildingPoints x = new BuildingPoints();
        fullSchedule(x);
        due.is("16 another schedule has room", x.weekly(1, 0, 0, 1), 1);
        BuildingPoints weeklyOnly = new BuildingPoints();
        BuildingPoints onceOnly = new BuildingPoints();
        oneOfEach(weeklyOnly);
        oneOfEach(onceOnly);
        for (int i = 0; i < 20; i++) {
            due.is("16 up to twenty", weeklyOnly.weekly(0, 0, 0, i), i);
            due.is("17 up to twenty", onceOnly.once(0, 0, 0, i), i);
        }
        due.is("16 no more", Due.thrownBy(() -> weeklyOnly.weekly(0, 0, 0, 50)), Due.STATE.getName());
        due.is("17 no more", Due.thrownBy(() -> onceOnly.once(0, 0, 0, 50)), Due.STATE.getName());
    }

    private static void tells() {
        BuildingPoints x = new BuildingPoints();
        oneOfEach(x);
        x.weekly(0, 2, 60, 1);
        x.weekly(0, 2, 30, 2);
        x.weekly(0, 2, 90, NOTHING);
        x.once(0, 9, 45, 3);
        due.are("18 of a weekday", new long[] {NOTHING, NOTHING, 2, 2, 1, 1, NOTHING, NOTHING, NOTHING},
                () -> x.tells(0, 2 * DAY), () -> x.tells(0, 2 * DAY + 29), () -> x.tells(0, 2 * DAY + 30),
                () -> x.tells(0, 2 * DAY + 59), () -> x.tells(0, 2 * DAY + 60), () -> x.tells(0, 2 * DAY + 89),
                () -> x.tells(0, 2 * DAY + 90), () -> x.tells(0, 3 * DAY - 1), () -> x.tells(0, 3 * DAY + 60));
        due.are("18 of a single day", new long[] {NOTHING, 3, 3, 2},
                () -> x.tells(0, 9 * DAY + 44), () -> x.tells(0, 9 * DAY + 45),
                () -> x.tells(0, 10 * DAY - 1), () -> x.tells(0, 16 * DAY + 30));
        due.are("18 asking changes nothing", new long[] {NOTHING, 0, NOTHING},
                () -> x.command(0, 9), () -> x.clock(), () -> x.tells(1, 2 * DAY + 60));
        x.weekly(0, 694 % 7, 0, 4);
        due.are("18 the edges", new long[] {NOTHING, 4, NOTHING}, () -> x.tells(0, 0),
                () -> x.tells(0, 1000000), () -> x.tells(0, 694 * DAY - 1));
    }

    private static void tellsRefuses() {
        for (int wrong : new int[] {-1, 2, 4, Integer.MIN_VALUE, Integer.MAX_VALUE}) {
            due.refuses("18 schedule " + wrong, Due.INDEX, SchedulesTest::oneOfEach, x -> x.tells(wrong, -1));
        }
        for (int wrong : new int[] {-1, 1000001, Integer.MIN_VALUE, Integer.MAX_VALUE}) {
            due.refuses("18 time " + wrong, Due.ARGUMENT, SchedulesTest::oneOfEach, x -> x.tells(0, wrong));
        }
    }

    private static void pass() {
        BuildingPoints x = new BuildingPoints();
        oneOfEach(x);
        x.subscribe(0, 1, 100000);
        x.subscribe(0, 2, 100000);
        x.subscribe(1, 1, 100000);
        x.write(0, 16, 1);
        due.is("19 what was told before is not counted", x.pass(1), 0);
        x.weekly(0, 0, 10, 2);
        x.weekly(0, 0, 20, 10);
        x.weekly(1, 0, 20, 1);
        due.is("19 not yet", x.pass(8), 0);
        due.is("19 all subscriptions", x.pass(1), 2);
        due.is("19 all points", x.pass(10), 3);
        due.are("19 each its own", new long[] {3, 2, 1},
                () -> x.reports(0), () -> x.reports(1), () -> x.reports(2));
        due.is("19 the next day", x.pass(DAY), 3);
        due.are("19 the day's end", new long[] {1, 0, DAY + 20},
                () -> x.value(0), () -> x.value(1), () -> x.clock());
    }

    private static void passWritesEachMinute() {
        BuildingPoints x = new BuildingPoints();
        oneOfEach(x);
        x.weekly(0, 0, 1, 5);
        x.weekly(0, 0, 2, 0);
        x.weekly(0, 0, 3, 5);
        x.subscribe(0, 1, 100);
        due.are("19 minutes between are not left out", new long[] {3, 3},
                () -> x.pass(100), () -> x.changes(0));
        x.write(0, 9, 44);
        x.pass(50);
        due.is("19 a command written over stays", x.value(0), 44);
        x.pass(DAY - 150);
        due.is("19 until the schedule tells another", x.command(0, 9), NOTHING);
        due.is("19 a week later it tells the same", x.tells(0, 7 * DAY + 3), 5);
    }

    private static void schedulesByRisingNumbers() {
        BuildingPoints x = new BuildingPoints();
        x.addMeasure(0);
        x.addSchedule(0, 9);
        x.addSchedule(0, 9);
        x.weekly(0, 0, 5, 50);
        x.weekly(1, 0, 5, 60);
        x.subscribe(0, 1, 100);
        due.are("19 the last one's command stays", new long[] {2, 60, 2},
                () -> x.pass(5), () -> x.value(0), () -> x.changes(0));
        x.weekly(1, 0, 5, NOTHING);
        due.are("19 relinquished by one, though the other tells", new long[] {NOTHING, 50},
                () -> x.command(0, 9), () -> x.tells(0, 5));
    }

    private static void heldBeforeSchedules() {
        BuildingPoints x = new BuildingPoints();
        x.addSwitch(0, 10);
        x.addSchedule(0, 9);
        x.weekly(0, 0, 10, 1);
        x.write(0, 6, 1);
        due.is("19 the held command goes first", x.pass(10), 0);
        due.are("19 its end is held, the schedule comes too late", new long[] {0, 10, 1, 2},
                () -> x.value(0), () -> x.held(0), () -> x.command(0, 9), () -> x.changes(0));
        x.pass(10);
        due.are("19 then it counts", new long[] {1, 10, 3},
                () -> x.value(0), () -> x.held(0), () -> x.changes(0));
    }

    private static void passRefuses() {
        for (int wrong : new int[] {-1, 0, 5001, Integer.MIN_VALUE, Integer.MAX_VALUE}) {
            due.refuses("19 minutes " + wrong, Due.ARGUMENT, SchedulesTest::oneOfEach, x -> x.pass(wrong));
        }
        due.refuses("19 above the last minute", Due.STATE, SchedulesTest::almostTheEnd, x -> x.pass(3));
        due.refuses("19 far above it", Due.STATE, SchedulesTest::almostTheEnd, x -> x.pass(5000));
        due.refuses("19 the argument comes first", Due.ARGUMENT, SchedulesTest::almostTheEnd,
                x -> x.pass(5001));
        BuildingPoints x = new BuildingPoints();
        almostTheEnd(x);
        due.is("19 to the last minute", x.pass(2), 0);
        due.is("20 the last minute", x.clock(), 1000000);
        due.is("19 not above it", Due.thrownBy(() -> x.pass(1)), Due.STATE.getName());
        due.is("10 a subscription in the last minute", x.subscribe(0, 1, 100000), 0);
        due.is("4 a change in the last minute", x.write(1, 8, 1), 1);
        due.is("8 is held", x.held(1), 10);
    }

    private static void almostTheEnd(BuildingPoints x) {
        oneOfEach(x);
        for (int i = 0; i < 200; i++) {
            x.pass(i < 199 ? 5000 : 4998);
        }
    }

    private static void clock() {
        BuildingPoints x = new BuildingPoints();
        due.is("20 at first", x.clock(), 0);
        x.pass(1);
        due.is("20 a minute", x.clock(), 1);
        x.pass(5000);
        due.is("20 the most minutes", x.clock(), 5001);
        due.is("20 a call that throws", Due.thrownBy(() -> x.pass(0)), Due.ARGUMENT.getName());
        due.is("20 does not move it", x.clock(), 5001);
    }
}
