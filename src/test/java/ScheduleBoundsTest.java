import java.util.function.Consumer;

/** Promises 15 to 18, sentence by sentence: the edges that each names, and what it refuses. */
public final class ScheduleBoundsTest {
    private static final int NOTHING = Due.NOTHING;
    private static final int DAY = 1440;
    private static final int LAST_TIME = 1000000;
    private static final Due due = new Due("ScheduleBoundsTest");
    private static final Bounds bounds = new Bounds(due);

    /** The calls weekly and once, with the day of the one or the other. */
    private interface EntryCall {
        int on(BuildingPoints x, int schedule, int day, int minute, int value);
    }

    private static final EntryCall WEEKLY = BuildingPoints::weekly;
    private static final EntryCall ONCE = BuildingPoints::once;

    public static void main(String[] args) {
        schedulesAreNumberedFromZero();
        thereAreAtMostFour();
        aPointThatIsNotThere();
        aScheduleThatIsNotThere();
        priorities();
        noEntriesAtFirst();
        weekdays();
        singleDays();
        minutes(WEEKLY, "Promise 16");
        minutes(ONCE, "Promise 17");
        values(WEEKLY, "Promise 16");
        values(ONCE, "Promise 17");
        returnsWhatItTellsNow();
        twentyEntries();
        times();
        daysAndWeekdays();
        singleDaysCountBeforeWeekdays();
        theGreatestMinuteThatIsNotLater(WEEKLY);
        theGreatestMinuteThatIsNotLater(ONCE);
        theOneAddedLast(WEEKLY);
        theOneAddedLast(ONCE);
        nothingIfThereIsNoEntry();
        writtenWheneverItIsChanged();
        relinquishedIfItTellsNothing();
        onlyWhatDiffersFromWhatItToldLast();
        nothingAtFirst();
        due.close();
    }

    private static void measureAndSwitch(BuildingPoints x) {
        x.addMeasure(20);
        x.addSwitch(0, 10);
    }

    private static void oneOfEach(BuildingPoints x) {
        measureAndSwitch(x);
        x.addSchedule(0, 9);
        x.addSchedule(1, 16);
    }

    private static BuildingPoints withOneOfEach() {
        BuildingPoints x = new BuildingPoints();
        oneOfEach(x);
        return x;
    }

    // ---- the row of schedules

    private static void schedulesAreNumberedFromZero() {
        due.sentence("Schedules", "Schedules are numbered from 0; there are at most 4.");
        BuildingPoints x = new BuildingPoints();
        measureAndSwitch(x);
        for (int i = 0; i < 4; i++) {
            due.is("its number", x.addSchedule(0, 10 + i), i);
        }
        due.are("the first and the last", new long[] {5, 6}, () -> x.weekly(0, 0, 0, 5),
                () -> x.weekly(3, 0, 0, 6));
        due.are("each has its own entries", new long[] {5, NOTHING, NOTHING, 6}, () -> x.tells(0, 0),
                () -> x.tells(1, 0), () -> x.tells(2, 0), () -> x.tells(3, 0));
        due.are("each writes at its own priority", new long[] {5, NOTHING, NOTHING, 6},
                () -> x.command(0, 10), () -> x.command(0, 11), () -> x.command(0, 12),
                () -> x.command(0, 13));
    }

    private static void thereAreAtMostFour() {
        due.sentence("Promise 15", "Throws IllegalStateException if there are 4");
        due.takes("the 4th", x -> scheduled(x, 3), x -> x.addSchedule(0, 7));
        due.refuses("the 5th", Due.STATE, x -> scheduled(x, 4), x -> x.addSchedule(0, 7));
        due.refuses("the 5th, for another point", Due.STATE, x -> scheduled(x, 4),
                x -> x.addSchedule(1, 16));
    }

    private static void scheduled(BuildingPoints x, int count) {
        measureAndSwitch(x);
        for (int i = 0; i < count; i++) {
            x.addSchedule(0, 10);
        }
    }

    private static void aPointThatIsNotThere() {
        due.sentence("Promise 15", "Throws IndexOutOfBoundsException if there is no such point");
        bounds.places(16, x -> { }, x -> x.addMeasure(0), (x, point) -> x.addSchedule(point, 7));
        bounds.places(16, x -> { }, x -> x.addSwitch(0, 1), (x, point) -> x.addSchedule(point, 7));
    }

    private static void aScheduleThatIsNotThere() {
        String words = "Throws IndexOutOfBoundsException if there is no such schedule";
        noSuchSchedule("Promise 16", words, (x, schedule) -> x.weekly(schedule, 0, 0, 1));
        noSuchSchedule("Promise 17", words, (x, schedule) -> x.once(schedule, 0, 0, 1));
        noSuchSchedule("Promise 18", words, (x, schedule) -> x.tells(schedule, 0));
    }

    private static void noSuchSchedule(String promise, String words, Bounds.NumberCall call) {
        due.sentence(promise, words);
        bounds.places(4, ScheduleBoundsTest::measureAndSwitch, x -> x.addSchedule(0, 10), call);
    }

    private static void priorities() {
        due.sentence("Promise 15", "priority: 7 to 16");
        for (int i = 0; i < 2; i++) {
            int point = i;
            bounds.range(7, 16, ScheduleBoundsTest::measureAndSwitch,
                    (x, priority) -> x.addSchedule(point, priority));
        }
        due.sentence("Schedules", "A schedule writes to a point at a priority from 7 to 16.");
        for (int priority = 7; priority <= 16; priority++) {
            BuildingPoints x = new BuildingPoints();
            measureAndSwitch(x);
            x.addSchedule(0, priority);
            x.weekly(0, 0, 0, 5);
            for (int other = 1; other <= 16; other++) {
                due.is("at " + priority + ", asked at " + other, x.command(0, other),
                        other == priority ? 5 : NOTHING);
            }
        }
    }

    private static void noEntriesAtFirst() {
        due.sentence("Promise 15", "Adds a schedule without entries.");
        BuildingPoints x = withOneOfEach();
        due.are("it tells nothing", new long[] {NOTHING, NOTHING, NOTHING, 0}, () -> x.tells(0, 0),
                () -> x.tells(0, LAST_TIME), () -> x.tells(1, 1439), () -> x.pass(DAY));
        due.are("it writes nothing", new long[] {17, 17}, () -> x.standing(0), () -> x.standing(1));
        BuildingPoints commanded = new BuildingPoints();
        commanded.addMeasure(0);
        commanded.write(0, 7, 5);
        commanded.addSchedule(0, 7);
        commanded.pass(DAY);
        due.is("it relinquishes nothing", commanded.command(0, 7), 5);
    }

    // ---- the ranges of promises 16 to 18

    private static void weekdays() {
        due.sentence("Promise 16", "weekday: 0 to 6");
        bounds.range(0, 6, ScheduleBoundsTest::oneOfEach, (x, weekday) -> x.weekly(0, weekday, 0, 1));
        for (int weekday = 0; weekday <= 6; weekday++) {
            BuildingPoints x = withOneOfEach();
            x.weekly(0, weekday, 0, 5);
            for (int day = 0; day < 15; day++) {
                due.is("weekday " + weekday + " on day " + day, x.tells(0, day * DAY),
                        day % 7 == weekday ? 5 : NOTHING);
            }
        }
    }

    private static void singleDays() {
        due.sentence("Promise 17", "day: 0 to 700");
        bounds.range(0, 700, ScheduleBoundsTest::oneOfEach, (x, day) -> x.once(0, day, 0, 1));
        for (int day : new int[] {0, 1, 6, 7, 693, 694}) {
            BuildingPoints x = withOneOfEach();
            x.once(0, day, 0, 5);
            for (int asked : new int[] {0, 1, 5, 6, 7, 8, 14, 692, 693, 694}) {
                due.is("day " + day + " on day " + asked, x.tells(0, asked * DAY),
                        asked == day ? 5 : NOTHING);
            }
        }
        BuildingPoints x = withOneOfEach();
        for (int day = 695; day <= 700; day++) {
            due.is("later than any time can be told", x.once(0, day, 0, 5), NOTHING);
        }
        due.is("nor on the last day", x.tells(0, LAST_TIME), NOTHING);
    }

    private static void minutes(EntryCall call, String promise) {
        due.sentence(promise, "minute: 0 to 1439");
        bounds.range(0, 1439, ScheduleBoundsTest::oneOfEach,
                (x, minute) -> call.on(x, 0, 0, minute, 1));
        for (int minute : new int[] {0, 1, 720, 1438, 1439}) {
            BuildingPoints x = withOneOfEach();
            call.on(x, 0, 3, minute, 5);
            due.are("from " + minute, new long[] {NOTHING, 5, 5, NOTHING},
                    () -> x.tells(0, 3 * DAY + minute - 1), () -> x.tells(0, 3 * DAY + minute),
                    () -> x.tells(0, 3 * DAY + 1439), () -> x.tells(0, 4 * DAY));
        }
    }

    private static void values(EntryCall call, String promise) {
        due.sentence(promise, "value: a value that the point can have, or NOTHING");
        for (int i : new int[] {0, 1439}) {
            int minute = i;
            bounds.rangeOrNothing(-1000, 1000, ScheduleBoundsTest::oneOfEach,
                    (x, value) -> call.on(x, 0, 0, minute, value));
            bounds.rangeOrNothing(0, 1, ScheduleBoundsTest::oneOfEach,
                    (x, value) -> call.on(x, 1, 0, minute, value));
        }
        for (int value : new int[] {-1000, -1, 0, 1, 1000, NOTHING}) {
            BuildingPoints x = withOneOfEach();
            due.are("of a measure", new long[] {value, value, value, value == NOTHING ? 20 : value},
                    () -> call.on(x, 0, 0, 0, value), () -> x.tells(0, 0), () -> x.command(0, 9),
                    () -> x.value(0));
        }
        for (int value : new int[] {0, 1, NOTHING}) {
            BuildingPoints x = withOneOfEach();
            due.are("of a switch", new long[] {value, value, value, value == 1 ? 1 : 0},
                    () -> call.on(x, 1, 0, 0, value), () -> x.tells(1, 0), () -> x.command(1, 16),
                    () -> x.value(1));
        }
    }

    private static void returnsWhatItTellsNow() {
        due.sentence("Promise 16", "Returns what the schedule tells now then.");
        BuildingPoints weekly = withOneOfEach();
        weekly.pass(100);
        due.are("not what was added", new long[] {NOTHING, NOTHING, 3, 4, 4, NOTHING},
                () -> weekly.weekly(0, 0, 101, 1), () -> weekly.weekly(0, 1, 0, 2),
                () -> weekly.weekly(0, 0, 99, 3), () -> weekly.weekly(0, 0, 100, 4),
                () -> weekly.weekly(0, 0, 0, 5), () -> weekly.weekly(0, 0, 100, NOTHING));
        due.sentence("Promise 17", "Returns what the schedule tells now then.");
        BuildingPoints once = withOneOfEach();
        once.pass(100);
        due.are("not what was added", new long[] {NOTHING, NOTHING, 3, 4, 4, NOTHING},
                () -> once.once(0, 0, 101, 1), () -> once.once(0, 1, 0, 2),
                () -> once.once(0, 0, 99, 3), () -> once.once(0, 0, 100, 4),
                () -> once.once(0, 0, 0, 5), () -> once.once(0, 0, 100, NOTHING));
        BuildingPoints over = withOneOfEach();
        over.write(0, 9, 77);
        due.are("not what is commanded", new long[] {NOTHING, 5, 77}, () -> over.weekly(0, 0, 1, 5),
                () -> over.weekly(0, 0, 0, 5), () -> over.write(0, 9, 77));
        due.is("nor then", over.once(0, 1, 0, 6), 5);
    }

    private static void twentyEntries() {
        for (int i : new int[] {0, 1, 10, 19, 20}) {
            int ofWeekdays = i;
            due.sentence("Promise 16", "Throws IllegalStateException if it has 20 entries");
            onlyTwenty(ofWeekdays, x -> x.weekly(0, 0, 0, 50));
            due.sentence("Promise 17", "Throws IllegalStateException if it has 20 entries");
            onlyTwenty(ofWeekdays, x -> x.once(0, 0, 0, 50));
            due.takes("of another schedule", x -> entries(x, 20, ofWeekdays),
                    x -> x.weekly(1, 0, 0, 1));
        }
        BuildingPoints x = withOneOfEach();
        for (int i = 0; i < 20; i++) {
            x.weekly(0, 0, i * 10, i);
        }
        due.are("the first and the last of the twenty", new long[] {0, 0, 18, 19}, () -> x.tells(0, 0),
                () -> x.tells(0, 9), () -> x.tells(0, 189), () -> x.tells(0, 190));
        BuildingPoints y = withOneOfEach();
        for (int i = 0; i < 20; i++) {
            y.once(0, i, 0, i);
        }
        due.are("and of twenty single days", new long[] {0, 19, NOTHING}, () -> y.tells(0, 0),
                () -> y.tells(0, 19 * DAY), () -> y.tells(0, 20 * DAY));
    }

    private static void onlyTwenty(int ofWeekdays, Consumer<BuildingPoints> oneMore) {
        due.takes("the 20th, of weekdays " + ofWeekdays, x -> entries(x, 19, ofWeekdays), oneMore);
        due.refuses("the 21st, of weekdays " + ofWeekdays, Due.STATE, x -> entries(x, 20, ofWeekdays),
                oneMore);
    }

    private static void entries(BuildingPoints x, int count, int ofWeekdays) {
        oneOfEach(x);
        for (int i = 0; i < count; i++) {
            if (i < ofWeekdays) {
                x.weekly(0, i % 7, i, i);
            } else {
                x.once(0, i % 5, i, -i);
            }
        }
    }

    private static void times() {
        due.sentence("Promise 18", "time: 0 to 1000000");
        bounds.range(0, LAST_TIME, ScheduleBoundsTest::oneOfEach, (x, time) -> x.tells(0, time));
        BuildingPoints x = withOneOfEach();
        x.once(0, 0, 0, 5);
        x.once(0, 0, 1, 6);
        x.once(0, 694, 639, 7);
        x.once(0, 694, 640, 8);
        due.are("the first two and the last two", new long[] {5, 6, 7, 8}, () -> x.tells(0, 0),
                () -> x.tells(0, 1), () -> x.tells(0, LAST_TIME - 1), () -> x.tells(0, LAST_TIME));
        Bounds.passTo(x, LAST_TIME);
        due.are("from the last minute", new long[] {5, 8, 8}, () -> x.tells(0, 0),
                () -> x.tells(0, LAST_TIME), () -> x.value(0));
    }

    private static void daysAndWeekdays() {
        due.sentence("Terms", "the day of a minute is minute / 1440, and its weekday is the day modulo 7.");
        BuildingPoints x = withOneOfEach();
        for (int weekday = 0; weekday < 7; weekday++) {
            x.weekly(0, weekday, 0, weekday);
        }
        for (int day : new int[] {0, 1, 5, 6, 7, 8, 13, 14, 692, 693, 694}) {
            due.is("the first minute of day " + day, x.tells(0, day * DAY), day % 7);
            due.is("the last minute of the day before", x.tells(0, Math.max(0, day * DAY - 1)),
                    day == 0 ? 0 : (day - 1) % 7);
        }
        Bounds.passTo(x, 7 * DAY - 1);
        due.is("the last minute of a week", x.value(0), 6);
        x.pass(1);
        due.is("the first of the next", x.value(0), 0);
        Bounds.passTo(x, LAST_TIME);
        due.is("the last minute of all, of day 694", x.value(0), 1);
    }

    // ---- what a schedule tells

    private static void singleDaysCountBeforeWeekdays() {
        due.sentence("Schedules", "On a day, if there are entries for this single day, they count, "
                + "otherwise those for its weekday.");
        BuildingPoints x = withOneOfEach();
        for (int weekday = 0; weekday < 7; weekday++) {
            x.weekly(0, weekday, 0, 5);
        }
        x.once(0, 8, 600, 6);
        due.are("the day, the one before, the one after", new long[] {5, NOTHING, NOTHING, 6, 6, 5},
                () -> x.tells(0, 8 * DAY - 1), () -> x.tells(0, 8 * DAY), () -> x.tells(0, 8 * DAY + 599),
                () -> x.tells(0, 8 * DAY + 600), () -> x.tells(0, 9 * DAY - 1), () -> x.tells(0, 9 * DAY));
        due.are("the same weekday a week earlier and later", new long[] {5, 5},
                () -> x.tells(0, DAY + 600), () -> x.tells(0, 15 * DAY + 600));
        x.once(0, 9, 1439, NOTHING);
        due.are("one of nothing counts too", new long[] {NOTHING, NOTHING, 5}, () -> x.tells(0, 9 * DAY),
                () -> x.tells(0, 10 * DAY - 1), () -> x.tells(0, 10 * DAY));
        x.weekly(0, 1, 700, 7);
        due.are("one for the weekday that is added later does not", new long[] {6, 7},
                () -> x.tells(0, 8 * DAY + 700), () -> x.tells(0, 15 * DAY + 700));
    }

    private static void theGreatestMinuteThatIsNotLater(EntryCall call) {
        due.sentence("Schedules", "What a schedule tells at a time is the entry that counts with the "
                + "greatest minute that is not later than the minute of the day");
        BuildingPoints x = withOneOfEach();
        call.on(x, 0, 4, 800, 3);
        call.on(x, 0, 4, 0, 1);
        call.on(x, 0, 4, 1439, 4);
        call.on(x, 0, 4, 400, 2);
        int[] minutes = {0, 1, 399, 400, 401, 799, 800, 801, 1438, 1439};
        int[] told = {1, 1, 1, 2, 2, 2, 3, 3, 3, 4};
        for (int i = 0; i < minutes.length; i++) {
            due.is("at " + minutes[i], x.tells(0, 4 * DAY + minutes[i]), told[i]);
        }
        due.is("the day after", x.tells(0, 5 * DAY), NOTHING);
        Bounds.passTo(x, 4 * DAY - 1);
        due.is("in time, the day before", x.command(0, 9), NOTHING);
        for (int i = 0; i < minutes.length; i++) {
            Bounds.passTo(x, 4 * DAY + minutes[i]);
            due.is("in time, at " + minutes[i], x.command(0, 9), told[i]);
        }
        x.pass(1);
        due.is("in time, the day after", x.command(0, 9), NOTHING);
    }

    private static void theOneAddedLast(EntryCall call) {
        due.sentence("Schedules", "of several the one that was added last");
        for (int minute : new int[] {0, 700, 1439}) {
            BuildingPoints x = withOneOfEach();
            for (int i = 1; i <= 20; i++) {
                call.on(x, 0, 1, minute, i % 4 == 0 ? NOTHING : 50 - i);
                due.is("of " + i + " at " + minute, x.tells(0, DAY + minute),
                        i % 4 == 0 ? NOTHING : 50 - i);
            }
        }
        BuildingPoints x = withOneOfEach();
        call.on(x, 0, 1, 10, 1);
        call.on(x, 0, 1, 9, 2);
        call.on(x, 0, 2, 10, 3);
        due.is("a lesser minute or another day does not count", x.tells(0, DAY + 10), 1);
    }

    private static void nothingIfThereIsNoEntry() {
        due.sentence("Schedules", "nothing, if there is no such entry.");
        BuildingPoints x = withOneOfEach();
        x.weekly(0, 0, 1, 5);
        due.are("before the first of the day", new long[] {NOTHING, 5, 5, NOTHING, NOTHING},
                () -> x.tells(0, 0), () -> x.tells(0, 1), () -> x.tells(0, DAY - 1),
                () -> x.tells(0, DAY), () -> x.tells(0, 7 * DAY));
        x.once(0, 7, 1439, 6);
        due.are("before the first of a single day", new long[] {NOTHING, NOTHING, 6, NOTHING},
                () -> x.tells(0, 7 * DAY + 1), () -> x.tells(0, 8 * DAY - 2),
                () -> x.tells(0, 8 * DAY - 1), () -> x.tells(0, 8 * DAY));
    }

    // ---- what a schedule writes

    private static void writtenWheneverItIsChanged() {
        due.sentence("Schedules", "and whenever a schedule is changed, the command that the schedule tells "
                + "is written to its point at its priority");
        BuildingPoints x = withOneOfEach();
        x.pass(50);
        x.weekly(0, 0, 51, 1);
        due.is("for the next minute, not yet", x.command(0, 9), NOTHING);
        x.weekly(0, 0, 50, 2);
        due.are("for this minute, at once", new long[] {2, 2, 50}, () -> x.command(0, 9),
                () -> x.value(0), () -> x.clock());
        x.once(0, 1, 0, 3);
        due.is("for another day, not yet", x.command(0, 9), 2);
        x.once(0, 0, 50, 4);
        due.is("for this day, at once", x.command(0, 9), 4);
        BuildingPoints ahead = withOneOfEach();
        ahead.write(0, 8, 30);
        due.are("behind another command", new long[] {5, 5, 30}, () -> ahead.weekly(0, 0, 0, 5),
                () -> ahead.command(0, 9), () -> ahead.value(0));
    }

    private static void relinquishedIfItTellsNothing() {
        due.sentence("Schedules", "or relinquished there, if it tells nothing");
        BuildingPoints x = withOneOfEach();
        x.weekly(0, 0, 0, 5);
        x.once(0, 0, 1, 6);
        due.are("when it is changed", new long[] {NOTHING, 20, 17}, () -> x.command(0, 9),
                () -> x.value(0), () -> x.standing(0));
        x.pass(1);
        due.is("the entry in time", x.command(0, 9), 6);
        Bounds.passTo(x, DAY - 1);
        due.is("the last minute of the day", x.command(0, 9), 6);
        x.pass(1);
        due.are("the first of the next", new long[] {NOTHING, 20}, () -> x.command(0, 9),
                () -> x.value(0));
        BuildingPoints one = withOneOfEach();
        one.weekly(0, 0, 0, 5);
        one.write(0, 7, 1);
        one.write(0, 16, 2);
        one.weekly(0, 0, 0, NOTHING);
        due.are("at its priority alone", new long[] {1, NOTHING, 2}, () -> one.command(0, 7),
                () -> one.command(0, 9), () -> one.command(0, 16));
    }

    private static void onlyWhatDiffersFromWhatItToldLast() {
        due.sentence("Schedules", "but only if what it tells differs from what it told last");
        BuildingPoints x = withOneOfEach();
        x.weekly(0, 0, 0, 5);
        x.write(0, 9, 77);
        x.weekly(0, 0, 0, 5);
        due.is("the same by another entry", x.command(0, 9), 77);
        x.once(0, 0, 0, 5);
        due.is("the same by an entry for the day", x.command(0, 9), 77);
        x.pass(DAY - 1);
        due.is("the same in each minute", x.command(0, 9), 77);
        x.pass(1);
        due.is("another, when its day has passed", x.command(0, 9), NOTHING);
        x.write(0, 9, 78);
        x.pass(100);
        due.is("nothing, as told last", x.command(0, 9), 78);
        BuildingPoints gone = withOneOfEach();
        gone.weekly(0, 0, 0, 5);
        gone.write(0, 9, NOTHING);
        gone.pass(100);
        due.is("relinquished by a call it stays so", gone.command(0, 9), NOTHING);
        gone.weekly(0, 0, 100, 6);
        due.is("until another is told", gone.command(0, 9), 6);
        gone.weekly(0, 0, 100, 5);
        due.is("or the first again", gone.command(0, 9), 5);
    }

    private static void nothingAtFirst() {
        due.sentence("Schedules", "(at first nothing)");
        BuildingPoints x = new BuildingPoints();
        measureAndSwitch(x);
        x.write(0, 9, 5);
        x.addSchedule(0, 9);
        due.are("nothing at first is not relinquished", new long[] {NOTHING, 5},
                () -> x.weekly(0, 0, 0, NOTHING), () -> x.command(0, 9));
        x.pass(1);
        due.is("nor in the first minute", x.command(0, 9), 5);
        x.once(0, 0, 0, 6);
        due.is("what it tells then is written", x.command(0, 9), 6);
        BuildingPoints zero = new BuildingPoints();
        zero.addMeasure(20);
        zero.addSchedule(0, 9);
        due.are("0 is not nothing", new long[] {0, 0, 9}, () -> zero.weekly(0, 0, 0, 0),
                () -> zero.command(0, 9), () -> zero.standing(0));
    }
}
