import java.util.Arrays;

/**
 * Points of a building network: values commanded by priorities, switches with least times between
 * changes, subscriptions that are told of changes by increments, and schedules by week with
 * exceptions.
 */
public final class BuildingPoints {
    /** Nothing: no command, no value. */
    public static final int NOTHING = -100000;

    private static final int MOST_POINTS = 16;
    private static final int MOST_SUBSCRIPTIONS = 30;
    private static final int MOST_SCHEDULES = 4;
    private static final int MOST_ENTRIES = 20;

    private static final int LEAST_MEASURE = -1000;
    private static final int GREATEST_MEASURE = 1000;
    private static final int LONGEST_LEAST_TIME = 1000;

    private static final int FIRST_PRIORITY = 1;
    private static final int HOLDING_PRIORITY = 6;
    private static final int FIRST_SCHEDULE_PRIORITY = 7;
    private static final int LAST_PRIORITY = 16;
    private static final int NO_PRIORITY = 17;

    private static final int GREATEST_INCREMENT = 2000;
    private static final int LONGEST_LIFETIME = 100000;

    private static final int DAY_MINUTES = 1440;
    private static final int WEEK_DAYS = 7;
    private static final int LAST_DAY = 700;
    private static final int MOST_MINUTES = 5000;
    private static final int LAST_TIME = 1000000;

    // Each is filled from the left: what stands behind the first null is null too.
    private final Point[] points;
    private final Subscription[] subscriptions;
    private final Schedule[] schedules;
    private int pointCount;
    private int subscriptionCount;
    private int scheduleCount;
    private int now;
    private int allReports;

    public BuildingPoints() {
        points = new Point[MOST_POINTS];
        subscriptions = new Subscription[MOST_SUBSCRIPTIONS];
        schedules = new Schedule[MOST_SCHEDULES];
    }

    // ---- points

    public int addMeasure(int value) throws IllegalArgumentException, IllegalStateException {
        requireWithin(value, LEAST_MEASURE, GREATEST_MEASURE);
        requireRoom(pointCount, points.length);
        points[pointCount] = new Point(LEAST_MEASURE, GREATEST_MEASURE, value, 0);
        return pointCount++;
    }

    public int addSwitch(int value, int least)
            throws IllegalArgumentException, IllegalStateException {
        requireWithin(value, 0, 1);
        requireWithin(least, 0, LONGEST_LEAST_TIME);
        requireRoom(pointCount, points.length);
        points[pointCount] = new Point(0, 1, value, least);
        return pointCount++;
    }

    public int write(int point, int priority, int value)
            throws IndexOutOfBoundsException, IllegalArgumentException, IllegalStateException {
        Point written = pointAt(point);
        requireWithin(priority, FIRST_PRIORITY, LAST_PRIORITY);
        requireCommand(written, value);
        if (priority == HOLDING_PRIORITY && written.isHeld()) {
            throw new IllegalStateException("a command is held at this priority");
        }
        put(written, priority, value);
        return written.present;
    }

    public int value(int point) throws IndexOutOfBoundsException {
        return pointAt(point).present;
    }

    public int command(int point, int priority)
            throws IndexOutOfBoundsException, IllegalArgumentException {
        Point asked = pointAt(point);
        requireWithin(priority, FIRST_PRIORITY, LAST_PRIORITY);
        return asked.commands[priority];
    }

    public int standing(int point) throws IndexOutOfBoundsException {
        return pointAt(point).lowestCommanded();
    }

    public int held(int point) throws IndexOutOfBoundsException {
        Point asked = pointAt(point);
        return asked.isHeld() ? asked.heldUntil - now : 0;
    }

    public int changes(int point) throws IndexOutOfBoundsException {
        return pointAt(point).changeCount;
    }

    // ---- subscriptions

    public int subscribe(int point, int increment, int lifetime)
            throws IndexOutOfBoundsException, IllegalArgumentException, IllegalStateException {
        Point watched = pointAt(point);
        requireWithin(increment, 1, GREATEST_INCREMENT);
        requireWithin(lifetime, 1, LONGEST_LIFETIME);
        requireRoom(subscriptionCount, subscriptions.length);
        subscriptions[subscriptionCount] = new Subscription(watched, increment, now + lifetime);
        return subscriptionCount++;
    }

    public void end(int subscription) throws IndexOutOfBoundsException, IllegalStateException {
        Subscription ended = subscriptionAt(subscription);
        if (!ended.isOpen) {
            throw new IllegalStateException("the subscription has ended");
        }
        ended.isOpen = false;
    }

    public boolean goesOn(int subscription) throws IndexOutOfBoundsException {
        return subscriptionAt(subscription).isOpen;
    }

    public int reports(int subscription) throws IndexOutOfBoundsException {
        return subscriptionAt(subscription).reportCount;
    }

    public int reported(int subscription) throws IndexOutOfBoundsException {
        return subscriptionAt(subscription).kept;
    }

    // ---- schedules

    public int addSchedule(int point, int priority)
            throws IndexOutOfBoundsException, IllegalArgumentException, IllegalStateException {
        Point written = pointAt(point);
        requireWithin(priority, FIRST_SCHEDULE_PRIORITY, LAST_PRIORITY);
        requireRoom(scheduleCount, schedules.length);
        schedules[scheduleCount] = new Schedule(written, priority);
        return scheduleCount++;
    }

    public int weekly(int schedule, int weekday, int minute, int value)
            throws IndexOutOfBoundsException, IllegalArgumentException, IllegalStateException {
        Schedule changed = scheduleAt(schedule);
        requireWithin(weekday, 0, WEEK_DAYS - 1);
        requireEntry(changed, minute, value);
        changed.weekdays.add(weekday, minute, value);
        follow(changed);
        return changed.toldLast;
    }

    public int once(int schedule, int day, int minute, int value)
            throws IndexOutOfBoundsException, IllegalArgumentException, IllegalStateException {
        Schedule changed = scheduleAt(schedule);
        requireWithin(day, 0, LAST_DAY);
        requireEntry(changed, minute, value);
        changed.singleDays.add(day, minute, value);
        follow(changed);
        return changed.toldLast;
    }

    public int tells(int schedule, int time)
            throws IndexOutOfBoundsException, IllegalArgumentException {
        Schedule asked = scheduleAt(schedule);
        requireWithin(time, 0, LAST_TIME);
        return asked.toldAt(time);
    }

    public int pass(int minutes) throws IllegalArgumentException, IllegalStateException {
        requireWithin(minutes, 1, MOST_MINUTES);
        if (minutes > LAST_TIME - now) {
            throw new IllegalStateException("the clock would be too high");
        }
        int reportsBefore = allReports;
        for (int passed = 0; passed < minutes; passed++) {
            passMinute();
        }
        return allReports - reportsBefore;
    }

    public int clock() {
        return now;
    }

    // ---- what the calls look at first

    private static void requireWithin(int number, int least, int greatest) {
        if (number < least || number > greatest) {
            throw new IllegalArgumentException("an argument is out of range");
        }
    }

    private static void requireCommand(Point point, int command) {
        if (command != NOTHING && !point.canHave(command)) {
            throw new IllegalArgumentException("the point cannot have this value");
        }
    }

    private static void requireRoom(int count, int most) {
        if (count >= most) {
            throw new IllegalStateException("there are as many as there may be");
        }
    }

    private static void requireEntry(Schedule schedule, int minute, int command) {
        requireWithin(minute, 0, DAY_MINUTES - 1);
        requireCommand(schedule.point, command);
        requireRoom(schedule.entryCount(), MOST_ENTRIES);
    }

    private Point pointAt(int number) {
        if (number < 0 || number >= points.length || points[number] == null) {
            throw new IndexOutOfBoundsException("there is no such point");
        }
        return points[number];
    }

    private Subscription subscriptionAt(int number) {
        if (number < 0 || number >= subscriptions.length || subscriptions[number] == null) {
            throw new IndexOutOfBoundsException("there is no such subscription");
        }
        return subscriptions[number];
    }

    private Schedule scheduleAt(int number) {
        if (number < 0 || number >= schedules.length || schedules[number] == null) {
            throw new IndexOutOfBoundsException("there is no such schedule");
        }
        return schedules[number];
    }

    // ---- what happens

    // Every command comes through here, so that no change of a value misses its hold or its reports.
    private void put(Point point, int priority, int command) {
        point.commands[priority] = command;
        int due = point.dueValue();
        if (due != point.present) {
            point.change(due, now);
            reportChange(point);
        }
    }

    private void reportChange(Point point) {
        for (Subscription told : subscriptions) {
            if (told == null) {
                break;
            }
            if (told.isOpen && told.point == point && told.isFarFrom(point.present)) {
                told.report(point.present);
                allReports++;
            }
        }
    }

    private void follow(Schedule schedule) {
        int told = schedule.toldAt(now);
        if (told != schedule.toldLast) {
            schedule.toldLast = told;
            put(schedule.point, schedule.priority, told);
        }
    }

    private void passMinute() {
        now++;
        releaseHeldCommands();
        endOldSubscriptions();
        followSchedules();
    }

    private void releaseHeldCommands() {
        for (Point point : points) {
            if (point == null) {
                break;
            }
            if (point.isHeld() && point.heldUntil <= now) {
                // Before the command goes: the change that this may bring holds the point anew.
                point.heldUntil = Point.NOT_HELD;
                put(point, HOLDING_PRIORITY, NOTHING);
            }
        }
    }

    private void endOldSubscriptions() {
        for (Subscription subscription : subscriptions) {
            if (subscription == null) {
                break;
            }
            if (subscription.endTime <= now) {
                subscription.isOpen = false;
            }
        }
    }

    private void followSchedules() {
        for (Schedule schedule : schedules) {
            if (schedule == null) {
                break;
            }
            follow(schedule);
        }
    }

    private static final class Point {
        // No command is held until the minute 0, as the least time of one that is held is above 0.
        static final int NOT_HELD = 0;

        final int lowest;
        final int highest;
        final int original;
        final int leastTime;
        // By priority; the place 0 is not used.
        final int[] commands;
        int present;
        int heldUntil;
        int changeCount;

        Point(int lowest, int highest, int original, int leastTime) {
            this.lowest = lowest;
            this.highest = highest;
            this.original = original;
            this.leastTime = leastTime;
            commands = new int[LAST_PRIORITY + 1];
            Arrays.fill(commands, NOTHING);
            present = original;
            heldUntil = NOT_HELD;
            changeCount = 0;
        }

        boolean canHave(int number) {
            return number >= lowest && number <= highest;
        }

        boolean isHeld() {
            return heldUntil != NOT_HELD;
        }

        int lowestCommanded() {
            for (int priority = FIRST_PRIORITY; priority < commands.length; priority++) {
                if (commands[priority] != NOTHING) {
                    return priority;
                }
            }
            return NO_PRIORITY;
        }

        int dueValue() {
            int priority = lowestCommanded();
            return priority < commands.length ? commands[priority] : original;
        }

        void change(int due, int time) {
            present = due;
            changeCount++;
            if (leastTime > 0) {
                commands[HOLDING_PRIORITY] = due;
                heldUntil = time + leastTime;
            }
        }
    }

    private static final class Subscription {
        final Point point;
        final int increment;
        final int endTime;
        int kept;
        int reportCount;
        boolean isOpen;

        Subscription(Point point, int increment, int endTime) {
            this.point = point;
            this.increment = increment;
            this.endTime = endTime;
            kept = point.present;
            reportCount = 0;
            isOpen = true;
        }

        boolean isFarFrom(int number) {
            return Math.abs(number - kept) >= increment;
        }

        void report(int number) {
            kept = number;
            reportCount++;
        }
    }

    private static final class Schedule {
        final Point point;
        final int priority;
        final Entries weekdays;
        final Entries singleDays;
        int toldLast;

        Schedule(Point point, int priority) {
            this.point = point;
            this.priority = priority;
            weekdays = new Entries();
            singleDays = new Entries();
            toldLast = NOTHING;
        }

        int entryCount() {
            return weekdays.count + singleDays.count;
        }

        int toldAt(int time) {
            int day = time / DAY_MINUTES;
            int minute = time % DAY_MINUTES;
            if (singleDays.hasDay(day)) {
                return singleDays.latest(day, minute);
            }
            return weekdays.latest(day % WEEK_DAYS, minute);
        }
    }

    /** Entries of a schedule, in the order in which they were added. */
    private static final class Entries {
        final int[] days;
        final int[] minutes;
        final int[] told;
        int count;

        Entries() {
            days = new int[MOST_ENTRIES];
            minutes = new int[MOST_ENTRIES];
            told = new int[MOST_ENTRIES];
            count = 0;
        }

        void add(int day, int minute, int command) {
            if (count < MOST_ENTRIES) {
                days[count] = day;
                minutes[count] = minute;
                told[count] = command;
                count++;
            }
        }

        boolean hasDay(int day) {
            for (int i = 0; i < count; i++) {
                if (days[i] == day) {
                    return true;
                }
            }
            return false;
        }

        int latest(int day, int minute) {
            int latestMinute = -1;
            int latestTold = NOTHING;
            for (int i = 0; i < count; i++) {
                // An entry of the same minute that was added later counts, hence no '>' here.
                if (days[i] == day && minutes[i] <= minute && minutes[i] >= latestMinute) {
                    latestMinute = minutes[i];
                    latestTold = told[i];
                }
            }
            return latestTold;
        }
    }
}
