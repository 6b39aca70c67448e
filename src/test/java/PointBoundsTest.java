import java.util.function.Consumer;

/** Promises 1 to 9, sentence by sentence: the edges that each names, and what it refuses. */
public final class PointBoundsTest {
    private static final int NOTHING = Due.NOTHING;
    private static final Due due = new Due("PointBoundsTest");
    private static final Bounds bounds = new Bounds(due);

    public static void main(String[] args) {
        aNewObjectHasNothing();
        pointsAreNumberedFromZero();
        thereAreAtMostSixteen();
        aPointThatIsNotThere();
        valuesOfMeasures();
        valuesOfSwitches();
        leastTimes();
        prioritiesOfWrite();
        valuesOfWrite();
        writeReturnsTheValueThen();
        prioritiesOfCommand();
        nothingIsItsNumber();
        withoutCommandsAtFirst();
        commandsAtEachPriority();
        theLowestPriorityCounts();
        standsAtSeventeenWithNone();
        onlySwitchesWithALeastTimeHold();
        everyChangeHolds();
        whatIsNoChangeHoldsNothing();
        heldUntilItsMinutesHavePassed();
        aCommandAtSixIsLost();
        noCommandAtSixAnyMore();
        nothingIsWrittenWhereACommandIsHeld();
        holdsAnew();
        heldIsZeroIfNone();
        countsChanges();
        due.close();
    }

    // ---- promise 1, and the row of points

    private static void aNewObjectHasNothing() {
        due.sentence("Promise 1", "No points, subscriptions and schedules; it is the minute 0.");
        due.is("clock", new BuildingPoints().clock(), 0);
        refusesOnNew("write", x -> x.write(0, 1, 0));
        refusesOnNew("value", x -> x.value(0));
        refusesOnNew("command", x -> x.command(0, 1));
        refusesOnNew("standing", x -> x.standing(0));
        refusesOnNew("held", x -> x.held(0));
        refusesOnNew("changes", x -> x.changes(0));
        refusesOnNew("subscribe", x -> x.subscribe(0, 1, 1));
        refusesOnNew("end", x -> x.end(0));
        refusesOnNew("goesOn", x -> x.goesOn(0));
        refusesOnNew("reports", x -> x.reports(0));
        refusesOnNew("reported", x -> x.reported(0));
        refusesOnNew("addSchedule", x -> x.addSchedule(0, 7));
        refusesOnNew("weekly", x -> x.weekly(0, 0, 0, 0));
        refusesOnNew("once", x -> x.once(0, 0, 0, 0));
        refusesOnNew("tells", x -> x.tells(0, 0));
        BuildingPoints x = new BuildingPoints();
        due.are("minutes pass without anything", new long[] {0, 0, 5001},
                () -> x.pass(1), () -> x.pass(5000), () -> x.clock());
    }

    private static void refusesOnNew(String what, Consumer<BuildingPoints> call) {
        due.refuses(what, Due.INDEX, x -> { }, call);
    }

    private static void pointsAreNumberedFromZero() {
        due.sentence("Points", "Points are numbered from 0; there are at most 16.");
        BuildingPoints x = new BuildingPoints();
        for (int i = 0; i < 16; i += 2) {
            due.is("a measure", x.addMeasure(100 + i), i);
            due.is("a switch", x.addSwitch(i / 2 % 2, 0), i + 1);
        }
        due.are("the first, the last, and between", new long[] {100, 0, 114, 1}, () -> x.value(0),
                () -> x.value(1), () -> x.value(14), () -> x.value(15));
        due.are("each is written to alone", new long[] {7, 0, 7, 114, 0}, () -> x.write(0, 1, 7),
                () -> x.write(15, 1, 0), () -> x.value(0), () -> x.value(14), () -> x.value(1));
    }

    private static void thereAreAtMostSixteen() {
        due.sentence("Promise 2", "Throws IllegalStateException if there are 16 points");
        onlySixteen(x -> x.addMeasure(0));
        due.sentence("Promise 3", "Throws IllegalStateException if there are 16 points");
        onlySixteen(x -> x.addSwitch(0, 0));
    }

    private static void onlySixteen(Consumer<BuildingPoints> oneMore) {
        for (int measures : new int[] {0, 1, 8, 15, 16}) {
            due.takes("the 16th, with measures " + measures, x -> points(x, 15, measures), oneMore);
            due.refuses("the 17th, with measures " + measures, Due.STATE, x -> points(x, 16, measures),
                    oneMore);
        }
    }

    private static void points(BuildingPoints x, int count, int measures) {
        for (int i = 0; i < count; i++) {
            if (i < measures) {
                x.addMeasure(i);
            } else {
                x.addSwitch(i % 2, i);
            }
        }
    }

    private static void aPointThatIsNotThere() {
        String words = "Throws IndexOutOfBoundsException if there is no such point";
        noSuchPoint("Promise 4", words, (x, point) -> x.write(point, 16, 1));
        noSuchPoint("Promise 5", words, (x, point) -> x.value(point));
        noSuchPoint("Promise 6", words, (x, point) -> x.command(point, 1));
        noSuchPoint("Promise 7", words, (x, point) -> x.standing(point));
        noSuchPoint("Promise 8", words, (x, point) -> x.held(point));
        noSuchPoint("Promise 9", words, (x, point) -> x.changes(point));
    }

    private static void noSuchPoint(String promise, String words, Bounds.NumberCall call) {
        due.sentence(promise, words);
        bounds.places(16, x -> { }, x -> x.addMeasure(0), call);
        bounds.places(16, x -> { }, x -> x.addSwitch(0, 1000), call);
    }

    // ---- the ranges of promises 2 to 6

    private static void valuesOfMeasures() {
        due.sentence("Promise 2", "value: its default value, -1000 to 1000");
        bounds.range(-1000, 1000, x -> x.addMeasure(3), (x, value) -> x.addMeasure(value));
        due.sentence("Points", "A point is a measure, with values from -1000 to 1000");
        for (int value : new int[] {-1000, -1, 0, 1, 1000}) {
            BuildingPoints x = new BuildingPoints();
            x.addMeasure(value);
            due.are("default " + value, new long[] {value, 17, 0, 0},
                    () -> x.value(0), () -> x.standing(0), () -> x.held(0), () -> x.changes(0));
            due.are("commanded, from " + value, new long[] {-1000, 1000}, () -> x.write(0, 8, -1000),
                    () -> x.write(0, 8, 1000));
        }
    }

    private static void valuesOfSwitches() {
        due.sentence("Promise 3", "value: its default value, 0 or 1");
        bounds.range(0, 1, x -> x.addMeasure(3), (x, value) -> x.addSwitch(value, 5));
        due.sentence("Points", "or a switch, with the values 0 and 1.");
        for (int value = 0; value <= 1; value++) {
            BuildingPoints x = new BuildingPoints();
            x.addSwitch(value, 0);
            due.are("default " + value, new long[] {value, 17, 0, 0},
                    () -> x.value(0), () -> x.standing(0), () -> x.held(0), () -> x.changes(0));
            due.are("commanded, from " + value, new long[] {0, 1}, () -> x.write(0, 8, 0),
                    () -> x.write(0, 8, 1));
        }
    }

    private static void leastTimes() {
        due.sentence("Promise 3", "least: its least time, 0 to 1000");
        bounds.range(0, 1000, x -> x.addMeasure(3), (x, least) -> x.addSwitch(0, least));
        for (int least : new int[] {0, 1, 999, 1000}) {
            BuildingPoints x = new BuildingPoints();
            x.addSwitch(0, least);
            due.are("least " + least, new long[] {1, least}, () -> x.write(0, 8, 1), () -> x.held(0));
        }
    }

    private static void measureAndSwitch(BuildingPoints x) {
        x.addMeasure(20);
        x.addSwitch(0, 10);
    }

    private static void prioritiesOfWrite() {
        due.sentence("Promise 4", "priority: 1 to 16");
        for (int i = 0; i < 2; i++) {
            int point = i;
            bounds.range(1, 16, PointBoundsTest::measureAndSwitch,
                    (x, priority) -> x.write(point, priority, 1));
            bounds.range(1, 16, PointBoundsTest::measureAndSwitch,
                    (x, priority) -> x.write(point, priority, NOTHING));
        }
        BuildingPoints x = new BuildingPoints();
        x.addMeasure(20);
        x.write(0, 16, 5);
        due.are("at the last", new long[] {5, NOTHING}, () -> x.command(0, 16), () -> x.command(0, 15));
        x.write(0, 1, 6);
        due.are("at the first", new long[] {6, NOTHING}, () -> x.command(0, 1), () -> x.command(0, 2));
    }

    private static void valuesOfWrite() {
        due.sentence("Promise 4", "value: a value that the point can have, or NOTHING to relinquish");
        for (int i : new int[] {1, 5, 6, 7, 16}) {
            int priority = i;
            bounds.rangeOrNothing(-1000, 1000, PointBoundsTest::measureAndSwitch,
                    (x, value) -> x.write(0, priority, value));
            bounds.rangeOrNothing(0, 1, PointBoundsTest::measureAndSwitch,
                    (x, value) -> x.write(1, priority, value));
        }
    }

    private static void writeReturnsTheValueThen() {
        due.sentence("Promise 4", "Returns the value of the point then.");
        BuildingPoints x = new BuildingPoints();
        x.addMeasure(20);
        due.are("the command, the one ahead of it, the default", new long[] {-1000, 1000, 1000, 1000, 7, 20},
                () -> x.write(0, 9, -1000), () -> x.write(0, 8, 1000), () -> x.write(0, 16, 7),
                () -> x.write(0, 9, NOTHING), () -> x.write(0, 8, NOTHING),
                () -> x.write(0, 16, NOTHING));
        BuildingPoints held = new BuildingPoints();
        held.addSwitch(0, 10);
        due.are("the held command", new long[] {1, 1, 0, 0},
                () -> held.write(0, 7, 1), () -> held.write(0, 7, NOTHING), () -> held.write(0, 5, 0),
                () -> held.write(0, 5, NOTHING));
    }

    private static void prioritiesOfCommand() {
        due.sentence("Promise 6", "priority: 1 to 16");
        bounds.range(1, 16, PointBoundsTest::measureAndSwitch, (x, priority) -> x.command(0, priority));
        bounds.range(1, 16, PointBoundsTest::measureAndSwitch, (x, priority) -> x.command(1, priority));
    }

    // ---- commands

    private static void nothingIsItsNumber() {
        due.sentence("The constants", "NOTHING = -100000: Nothing: no command, no value.");
        BuildingPoints x = new BuildingPoints();
        x.addMeasure(20);
        due.are("the number", new long[] {-100000, -100000, 5, 20}, () -> BuildingPoints.NOTHING,
                () -> x.command(0, 8), () -> x.write(0, 8, 5), () -> x.write(0, 8, -100000));
    }

    private static void withoutCommandsAtFirst() {
        due.sentence("Points", "16 priorities, 1 to 16, each with a command, which is a value, or without, "
                + "as all are at first");
        for (int i = 0; i < 2; i++) {
            int point = i;
            BuildingPoints x = new BuildingPoints();
            measureAndSwitch(x);
            for (int priority = 1; priority <= 16; priority++) {
                due.is("at first at " + priority, x.command(point, priority), NOTHING);
            }
            for (int priority = 1; priority <= 5; priority++) {
                x.write(point, priority, 0);
                due.is("with one at " + priority, x.command(point, priority), 0);
                due.is("the next is without", x.command(point, priority + 1), NOTHING);
            }
        }
    }

    private static void commandsAtEachPriority() {
        due.sentence("Promise 6", "Returns the command of a point at a priority; NOTHING if there is none.");
        for (int priority = 1; priority <= 16; priority++) {
            BuildingPoints x = new BuildingPoints();
            x.addMeasure(20);
            for (int value : new int[] {-1000, 0, 1, 20, 1000}) {
                x.write(0, priority, value);
                due.is(value + " at " + priority, x.command(0, priority), value);
            }
            x.write(0, priority, NOTHING);
            due.is("relinquished at " + priority, x.command(0, priority), NOTHING);
        }
    }

    private static void theLowestPriorityCounts() {
        due.sentence("Points", "The value of a point is the command of the lowest priority that has one, "
                + "or the default value.");
        BuildingPoints x = new BuildingPoints();
        x.addMeasure(20);
        for (int priority = 16; priority >= 1; priority--) {
            x.write(0, priority, priority);
            due.are("down to " + priority, new long[] {priority, priority}, () -> x.value(0),
                    () -> x.standing(0));
        }
        for (int priority = 1; priority <= 16; priority++) {
            due.are("up from " + priority, new long[] {priority, priority}, () -> x.value(0),
                    () -> x.standing(0));
            x.write(0, priority, NOTHING);
        }
        due.is("none", x.value(0), 20);
    }

    private static void standsAtSeventeenWithNone() {
        due.sentence("Promise 7", "Returns the lowest priority of a point that has a command; "
                + "17 if none has.");
        for (int i = 1; i <= 16; i++) {
            int priority = i;
            BuildingPoints x = new BuildingPoints();
            x.addMeasure(20);
            x.write(0, priority, 20);
            due.is("one alone, of the default value, at " + priority, x.standing(0), priority);
            x.write(0, priority, NOTHING);
            due.is("none any more at " + priority, x.standing(0), 17);
        }
        BuildingPoints x = new BuildingPoints();
        measureAndSwitch(x);
        due.are("at first", new long[] {17, 17}, () -> x.standing(0), () -> x.standing(1));
        x.write(1, 16, 1);
        due.is("the held one", x.standing(1), 6);
    }

    // ---- held commands

    private static void onlySwitchesWithALeastTimeHold() {
        due.sentence("Points", "When the value of a switch with a least time above 0 changes");
        BuildingPoints measure = new BuildingPoints();
        measure.addMeasure(0);
        due.are("a measure never holds", new long[] {1, 0, NOTHING, 8}, () -> measure.write(0, 8, 1),
                () -> measure.held(0), () -> measure.command(0, 6), () -> measure.standing(0));
        BuildingPoints none = new BuildingPoints();
        none.addSwitch(0, 0);
        due.are("nor does a switch with the least time 0", new long[] {1, 0, NOTHING, 0},
                () -> none.write(0, 8, 1), () -> none.held(0), () -> none.command(0, 6),
                () -> none.write(0, 8, 0));
        BuildingPoints one = new BuildingPoints();
        one.addSwitch(0, 1);
        due.are("one with the least time 1 does", new long[] {1, 1, 1, 1}, () -> one.write(0, 8, 1),
                () -> one.held(0), () -> one.command(0, 6), () -> one.write(0, 8, 0));
    }

    private static void everyChangeHolds() {
        due.sentence("Points", "in whichever way, its priority 6 gets a command with the new value");
        for (int i = 1; i <= 16; i++) {
            int priority = i;
            holds("written at " + priority, x -> { }, x -> x.write(0, priority, 1));
            if (priority != 6) {
                holds("relinquished at " + priority, x -> {
                    x.write(0, priority, 1);
                    x.pass(10);
                }, x -> x.write(0, priority, NOTHING));
            }
        }
        holds("relinquished at 6, where it is not held", x -> {
            x.write(0, 6, 0);
            x.write(0, 7, 1);
        }, x -> x.write(0, 6, NOTHING));
        holds("by the end of a held command", x -> {
            x.write(0, 6, 1);
            x.pass(9);
        }, x -> x.pass(1));
        holds("by an entry for a weekday", x -> x.addSchedule(0, 16), x -> x.weekly(0, 0, 0, 1));
        holds("by an entry for a single day", x -> x.addSchedule(0, 7), x -> x.once(0, 0, 0, 1));
        holds("by a schedule in time", x -> {
            x.addSchedule(0, 7);
            x.weekly(0, 0, 1, 1);
        }, x -> x.pass(1));
    }

    private static void holds(String what, Consumer<BuildingPoints> before,
            Consumer<BuildingPoints> change) {
        BuildingPoints x = new BuildingPoints();
        x.addSwitch(0, 10);
        before.accept(x);
        int old = x.value(0);
        int oldChanges = x.changes(0);
        change.accept(x);
        due.are(what, new long[] {1 - old, 1 - old, 10, oldChanges + 1}, () -> x.value(0),
                () -> x.command(0, 6), () -> x.held(0), () -> x.changes(0));
    }

    private static void whatIsNoChangeHoldsNothing() {
        due.sentence("Points", "When the value of a switch with a least time above 0 changes");
        for (int i = 1; i <= 16; i++) {
            int priority = i;
            BuildingPoints x = new BuildingPoints();
            x.addSwitch(1, 10);
            due.are("the same value at " + priority, new long[] {1, 0, 0}, () -> x.write(0, priority, 1),
                    () -> x.held(0), () -> x.changes(0));
            due.are("relinquished again at " + priority, new long[] {1, 0, NOTHING},
                    () -> x.write(0, priority, NOTHING), () -> x.held(0), () -> x.command(0, 6));
        }
        BuildingPoints x = new BuildingPoints();
        x.addSwitch(0, 10);
        x.write(0, 6, 0);
        due.are("a command that does not count", new long[] {0, 0, 0}, () -> x.write(0, 7, 1),
                () -> x.held(0), () -> x.command(0, 6));
    }

    private static void heldUntilItsMinutesHavePassed() {
        due.sentence("Points", "which is held until as many minutes have passed as its least time then is");
        for (int least : new int[] {1, 2, 999, 1000}) {
            BuildingPoints x = new BuildingPoints();
            x.addSwitch(0, least);
            x.pass(3);
            x.write(0, 8, 1);
            if (least > 1) {
                x.pass(least - 1);
            }
            due.are("the last minute of " + least, new long[] {1, 1, 6}, () -> x.held(0),
                    () -> x.command(0, 6), () -> x.standing(0));
            x.pass(1);
            due.are("after " + least, new long[] {0, NOTHING, 8}, () -> x.held(0),
                    () -> x.command(0, 6), () -> x.standing(0));
        }
        BuildingPoints x = new BuildingPoints();
        x.addSwitch(0, 1000);
        x.write(0, 8, 1);
        for (int left = 1000; left >= 1; left -= 37) {
            due.is("minutes left", x.held(0), left);
            x.pass(37);
        }
    }

    private static void aCommandAtSixIsLost() {
        due.sentence("Points", "a command that was at priority 6 is lost.");
        for (int i = 1; i <= 5; i++) {
            int priority = i;
            BuildingPoints x = new BuildingPoints();
            x.addSwitch(0, 10);
            x.write(0, 6, 0);
            due.are("by a change at " + priority, new long[] {1, 1}, () -> x.write(0, priority, 1),
                    () -> x.command(0, 6));
            x.pass(10);
            due.are("for good, at " + priority, new long[] {NOTHING, 1}, () -> x.command(0, 6),
                    () -> x.value(0));
        }
        BuildingPoints own = new BuildingPoints();
        own.addSwitch(0, 10);
        own.write(0, 6, 1);
        own.pass(10);
        own.pass(10);
        due.are("one that brought the change is lost too", new long[] {NOTHING, 0},
                () -> own.command(0, 6), () -> own.value(0));
    }

    private static void noCommandAtSixAnyMore() {
        due.sentence("Points", "When they have passed, priority 6 has no command any more.");
        BuildingPoints stays = new BuildingPoints();
        stays.addSwitch(0, 1);
        stays.write(0, 16, 1);
        stays.pass(1);
        due.are("the value stays by a command behind it", new long[] {NOTHING, 16, 1, 0, 1},
                () -> stays.command(0, 6), () -> stays.standing(0), () -> stays.value(0),
                () -> stays.held(0), () -> stays.changes(0));
        BuildingPoints ahead = new BuildingPoints();
        ahead.addSwitch(0, 1);
        ahead.write(0, 5, 1);
        ahead.pass(1);
        due.are("or by one ahead of it", new long[] {NOTHING, 5, 1, 0}, () -> ahead.command(0, 6),
                () -> ahead.standing(0), () -> ahead.value(0), () -> ahead.held(0));
        BuildingPoints back = new BuildingPoints();
        back.addSwitch(0, 1);
        back.write(0, 6, 1);
        back.pass(1);
        due.are("the default value, which is held in its turn", new long[] {0, 0, 1, 6, 2},
                () -> back.value(0), () -> back.command(0, 6), () -> back.held(0),
                () -> back.standing(0), () -> back.changes(0));
        back.pass(1);
        due.are("and then no more", new long[] {0, NOTHING, 0, 17, 2}, () -> back.value(0),
                () -> back.command(0, 6), () -> back.held(0), () -> back.standing(0),
                () -> back.changes(0));
    }

    private static void nothingIsWrittenWhereACommandIsHeld() {
        due.sentence("Promise 4", "Throws IllegalStateException if priority is 6, and a command is held "
                + "there");
        for (int value : new int[] {0, 1, NOTHING}) {
            due.refuses(value + " in the first minute", Due.STATE, x -> heldFor(x, 0),
                    x -> x.write(0, 6, value));
            due.refuses(value + " in the last minute", Due.STATE, x -> heldFor(x, 9),
                    x -> x.write(0, 6, value));
            due.refuses(value + " behind a lower priority", Due.STATE, x -> {
                heldFor(x, 5);
                x.write(0, 5, 1);
            }, x -> x.write(0, 6, value));
            due.takes(value + " when it has passed", x -> heldFor(x, 10), x -> x.write(0, 6, value));
            due.takes(value + " at 5", x -> heldFor(x, 0), x -> x.write(0, 5, value));
            due.takes(value + " at 7", x -> heldFor(x, 0), x -> x.write(0, 7, value));
            due.takes(value + " at 6 of another switch", x -> {
                heldFor(x, 0);
                x.addSwitch(0, 10);
            }, x -> x.write(1, 6, value));
            due.takes(value + " where a command is, but not held", x -> {
                x.addSwitch(0, 10);
                x.write(0, 6, 0);
            }, x -> x.write(0, 6, value));
        }
        due.refuses("a schedule's change is held too", Due.STATE, x -> {
            x.addSwitch(0, 10);
            x.addSchedule(0, 7);
            x.weekly(0, 0, 0, 1);
        }, x -> x.write(0, 6, 1));
    }

    private static void heldFor(BuildingPoints x, int minutes) {
        x.addSwitch(0, 10);
        x.write(0, 8, 1);
        if (minutes > 0) {
            x.pass(minutes);
        }
    }

    private static void holdsAnew() {
        due.sentence("Points", "A change of the value while it is held (by a lower priority) holds the "
                + "new value anew.");
        for (int i = 1; i <= 5; i++) {
            int priority = i;
            for (int passed : new int[] {0, 1, 9}) {
                BuildingPoints x = new BuildingPoints();
                heldFor(x, passed);
                due.are("by " + priority + " after " + passed, new long[] {0, 10, 0},
                        () -> x.write(0, priority, 0), () -> x.held(0), () -> x.command(0, 6));
            }
            BuildingPoints same = new BuildingPoints();
            heldFor(same, 4);
            due.are("the same value by " + priority + " does not", new long[] {1, 6, 1},
                    () -> same.write(0, priority, 1), () -> same.held(0), () -> same.command(0, 6));
        }
        BuildingPoints behind = new BuildingPoints();
        heldFor(behind, 4);
        for (int priority = 7; priority <= 16; priority++) {
            behind.write(0, priority, 0);
        }
        due.are("another value behind it does not", new long[] {1, 6, 1}, () -> behind.value(0),
                () -> behind.held(0), () -> behind.command(0, 6));
    }

    private static void heldIsZeroIfNone() {
        due.sentence("Promise 8", "0 if none is.");
        BuildingPoints x = new BuildingPoints();
        measureAndSwitch(x);
        due.are("at first", new long[] {0, 0}, () -> x.held(0), () -> x.held(1));
        x.write(0, 6, 30);
        x.write(1, 6, 0);
        due.are("with commands that are not held", new long[] {0, 0}, () -> x.held(0), () -> x.held(1));
        x.write(1, 6, 1);
        due.is("held", x.held(1), 10);
        x.write(1, 7, 1);
        x.pass(10);
        due.is("not any more", x.held(1), 0);
    }

    private static void countsChanges() {
        due.sentence("Promise 9", "Returns how often the value of a point has changed.");
        BuildingPoints x = new BuildingPoints();
        measureAndSwitch(x);
        due.is("at first", x.changes(0), 0);
        x.write(0, 8, 20);
        x.write(0, 8, NOTHING);
        due.is("none by the default value", x.changes(0), 0);
        x.write(0, 8, 21);
        x.write(0, 8, 21);
        x.write(0, 16, 5);
        due.is("one", x.changes(0), 1);
        x.write(0, 8, NOTHING);
        x.write(0, 16, NOTHING);
        due.are("each, and only its own", new long[] {3, 0}, () -> x.changes(0), () -> x.changes(1));
        for (int i = 0; i < 100; i++) {
            x.write(0, 1, i % 2);
        }
        due.is("a hundred more", x.changes(0), 103);
    }
}
