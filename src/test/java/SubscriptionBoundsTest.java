import java.util.function.Consumer;

/** Promises 10 to 14, sentence by sentence: the edges that each names, and what it refuses. */
public final class SubscriptionBoundsTest {
    private static final int NOTHING = Due.NOTHING;
    private static final Due due = new Due("SubscriptionBoundsTest");
    private static final Bounds bounds = new Bounds(due);

    public static void main(String[] args) {
        subscriptionsAreNumberedFromZero();
        thirtyAreMade();
        aPointThatIsNotThere();
        aSubscriptionThatIsNotThere();
        increments();
        lifetimes();
        endsWhenItsMinutesHavePassed();
        livesBeyondTheLastMinute();
        keepsTheValueWhenItIsMade();
        reportsByTheIncrementOrMore();
        reportsFromWhatWasReportedLast();
        reportsEachWayOfAChange();
        reportsToEachOfAPoint();
        endsOnlyOnce();
        goesOnUntilItEnds();
        countsItsReports();
        keepsWhatItHadAtItsEnd();
        due.close();
    }

    private static void measureAndSwitch(BuildingPoints x) {
        x.addMeasure(20);
        x.addSwitch(0, 10);
    }

    // ---- the row of subscriptions

    private static void subscriptionsAreNumberedFromZero() {
        due.sentence("Subscriptions", "Subscriptions are numbered from 0; at most 30 are made.");
        BuildingPoints x = new BuildingPoints();
        measureAndSwitch(x);
        for (int i = 0; i < 30; i++) {
            due.is("its number", x.subscribe(i % 2, 1 + i, 100), i);
        }
        x.write(0, 8, 49);
        due.are("the first and the last of the measure", new long[] {1, 49, 1, 49, 0, 0},
                () -> x.reports(0), () -> x.reported(0), () -> x.reports(28), () -> x.reported(28),
                () -> x.reports(1), () -> x.reports(29));
        x.end(29);
        x.end(0);
        due.are("each ends alone", new long[] {0, 1, 1, 0}, () -> goesOn(x, 0), () -> goesOn(x, 1),
                () -> goesOn(x, 28), () -> goesOn(x, 29));
    }

    private static int goesOn(BuildingPoints x, int subscription) {
        return x.goesOn(subscription) ? 1 : 0;
    }

    private static void thirtyAreMade() {
        due.sentence("Promise 10", "Throws IllegalStateException if 30 have been made");
        due.takes("the 30th", x -> subscribed(x, 29), x -> x.subscribe(1, 1, 1));
        due.refuses("the 31st", Due.STATE, x -> subscribed(x, 30), x -> x.subscribe(1, 1, 1));
        due.refuses("the 31st, when all were ended", Due.STATE, x -> {
            subscribed(x, 30);
            for (int i = 0; i < 30; i++) {
                x.end(i);
            }
        }, x -> x.subscribe(1, 1, 1));
        due.refuses("the 31st, when the time of all has passed", Due.STATE, x -> {
            subscribed(x, 30);
            x.pass(5);
        }, x -> x.subscribe(1, 1, 1));
        due.takes("the 30th, when all were ended", x -> {
            subscribed(x, 29);
            x.pass(5);
        }, x -> x.subscribe(1, 1, 1));
    }

    private static void subscribed(BuildingPoints x, int count) {
        measureAndSwitch(x);
        for (int i = 0; i < count; i++) {
            x.subscribe(0, 1, 5);
        }
    }

    private static void aPointThatIsNotThere() {
        due.sentence("Promise 10", "Throws IndexOutOfBoundsException if there is no such point");
        bounds.places(16, x -> { }, x -> x.addMeasure(0), (x, point) -> x.subscribe(point, 1, 1));
        bounds.places(16, x -> { }, x -> x.addSwitch(0, 1), (x, point) -> x.subscribe(point, 1, 1));
    }

    private static void aSubscriptionThatIsNotThere() {
        String words = "Throws IndexOutOfBoundsException if there is no such subscription";
        noSuchSubscription("Promise 11", words, (x, subscription) -> x.end(subscription));
        noSuchSubscription("Promise 12", words, (x, subscription) -> x.goesOn(subscription));
        noSuchSubscription("Promise 13", words, (x, subscription) -> x.reports(subscription));
        noSuchSubscription("Promise 14", words, (x, subscription) -> x.reported(subscription));
    }

    private static void noSuchSubscription(String promise, String words, Bounds.NumberCall call) {
        due.sentence(promise, words);
        bounds.places(30, SubscriptionBoundsTest::measureAndSwitch, x -> x.subscribe(0, 1, 5), call);
    }

    // ---- increments and lifetimes

    private static void increments() {
        due.sentence("Promise 10", "increment: 1 to 2000");
        for (int i = 0; i < 2; i++) {
            int point = i;
            bounds.range(1, 2000, SubscriptionBoundsTest::measureAndSwitch,
                    (x, increment) -> x.subscribe(point, increment, 1));
        }
    }

    private static void lifetimes() {
        due.sentence("Promise 10", "lifetime: 1 to 100000");
        for (int i = 0; i < 2; i++) {
            int point = i;
            bounds.range(1, 100000, SubscriptionBoundsTest::measureAndSwitch,
                    (x, lifetime) -> x.subscribe(point, 1, lifetime));
        }
    }

    private static void endsWhenItsMinutesHavePassed() {
        due.sentence("Subscriptions", "A subscription is for a point, with an increment and a lifetime in "
                + "minutes; it ends when as many minutes have passed.");
        for (int lifetime : new int[] {1, 2, 1440, 99999, 100000}) {
            BuildingPoints x = new BuildingPoints();
            x.addMeasure(20);
            x.pass(7);
            x.subscribe(0, 1, lifetime);
            Bounds.passTo(x, 7 + lifetime - 1);
            x.write(0, 8, 21);
            due.are("the last minute of " + lifetime, new long[] {1, 1, 21}, () -> goesOn(x, 0),
                    () -> x.reports(0), () -> x.reported(0));
            x.pass(1);
            x.write(0, 8, 22);
            due.are("after " + lifetime, new long[] {0, 1, 21}, () -> goesOn(x, 0), () -> x.reports(0),
                    () -> x.reported(0));
        }
        BuildingPoints x = new BuildingPoints();
        x.addMeasure(20);
        x.subscribe(0, 1, 3);
        x.pass(1);
        x.subscribe(0, 1, 1);
        x.pass(1);
        due.are("each by its own lifetime", new long[] {1, 0}, () -> goesOn(x, 0), () -> goesOn(x, 1));
    }

    private static void livesBeyondTheLastMinute() {
        due.sentence("Promise 10", "lifetime: 1 to 100000");
        BuildingPoints x = new BuildingPoints();
        x.addMeasure(20);
        Bounds.passTo(x, 999999);
        x.subscribe(0, 1, 100000);
        x.subscribe(0, 1, 1);
        x.pass(1);
        x.write(0, 8, 21);
        due.are("in the last minute of all", new long[] {1000000, 1, 0, 1, 0}, () -> x.clock(),
                () -> goesOn(x, 0), () -> goesOn(x, 1), () -> x.reports(0), () -> x.reports(1));
        due.is("made in it", x.subscribe(0, 1, 100000), 2);
        due.is("goes on in it", x.goesOn(2), true);
    }

    // ---- what is reported

    private static void keepsTheValueWhenItIsMade() {
        due.sentence("Subscriptions", "It keeps the value that was reported last, at first the value when "
                + "it is made.");
        for (int value : new int[] {-1000, -1, 0, 1, 1000}) {
            BuildingPoints x = new BuildingPoints();
            x.addMeasure(value);
            x.subscribe(0, 1, 1);
            due.are("the default value", new long[] {value, 0}, () -> x.reported(0), () -> x.reports(0));
        }
        BuildingPoints x = new BuildingPoints();
        measureAndSwitch(x);
        x.write(0, 16, 5);
        x.subscribe(0, 3, 100);
        x.write(0, 16, 6);
        x.subscribe(0, 3, 100);
        x.write(1, 6, 1);
        x.subscribe(1, 1, 100);
        due.are("the value that is commanded then", new long[] {5, 6, 1, 0, 0, 0}, () -> x.reported(0),
                () -> x.reported(1), () -> x.reported(2), () -> x.reports(0), () -> x.reports(1),
                () -> x.reports(2));
    }

    private static void reportsByTheIncrementOrMore() {
        due.sentence("Subscriptions", "Whenever the value of its point has changed, and differs from that "
                + "by the increment or more, the value is reported to it.");
        for (int increment : new int[] {2, 3, 999, 1000, 1999, 2000}) {
            reportedAt(increment, -1000, 1);
            reportedAt(increment, 1000, -1);
        }
        BuildingPoints one = new BuildingPoints();
        one.addMeasure(0);
        one.subscribe(0, 1, 100);
        one.write(0, 8, 0);
        due.is("no change, for the increment 1", one.reports(0), 0);
        one.write(0, 8, 1);
        due.are("the least change, for the increment 1", new long[] {1, 1}, () -> one.reports(0),
                () -> one.reported(0));
        BuildingPoints switched = new BuildingPoints();
        switched.addSwitch(0, 0);
        switched.subscribe(0, 1, 100);
        switched.subscribe(0, 2, 100);
        switched.write(0, 8, 1);
        due.are("a switch changes by 1", new long[] {1, 0}, () -> switched.reports(0),
                () -> switched.reports(1));
    }

    private static void reportedAt(int increment, int from, int sign) {
        BuildingPoints x = new BuildingPoints();
        x.addMeasure(from);
        x.subscribe(0, increment, 100);
        x.write(0, 8, from + sign * (increment - 1));
        due.are("from " + from + " by less than " + increment, new long[] {0, from}, () -> x.reports(0),
                () -> x.reported(0));
        x.write(0, 8, from + sign * increment);
        due.are("from " + from + " by " + increment, new long[] {1, from + sign * increment},
                () -> x.reports(0), () -> x.reported(0));
        BuildingPoints more = new BuildingPoints();
        more.addMeasure(from);
        more.subscribe(0, increment, 100);
        more.write(0, 8, -from);
        due.are("from " + from + " by 2000", new long[] {1, -from}, () -> more.reports(0),
                () -> more.reported(0));
    }

    private static void reportsFromWhatWasReportedLast() {
        due.sentence("Subscriptions", "It keeps the value that was reported last");
        BuildingPoints x = new BuildingPoints();
        x.addMeasure(0);
        x.subscribe(0, 3, 100);
        int[] values = {1, 2, 4, 2, 3, 6, 7, 4, 5, 9, -1000, -998, 1000};
        int[] kept = {0, 0, 4, 4, 4, 4, 7, 4, 4, 9, -1000, -1000, 1000};
        for (int i = 0; i < values.length; i++) {
            x.write(0, 8, values[i]);
            due.is("after " + values[i] + " as number " + i, x.reported(0), kept[i]);
        }
        due.is("all of them", x.reports(0), 6);
    }

    private static void reportsEachWayOfAChange() {
        due.sentence("Subscriptions", "Whenever the value of its point has changed");
        told("written", x -> { }, x -> x.write(0, 8, 1));
        told("relinquished", x -> x.write(0, 5, 1), x -> {
            x.pass(10);
            x.write(0, 5, NOTHING);
        });
        told("by the end of a held command", x -> x.write(0, 6, 1), x -> x.pass(10));
        told("by an entry for a weekday", x -> x.addSchedule(0, 7), x -> x.weekly(0, 0, 0, 1));
        told("by an entry for a single day", x -> x.addSchedule(0, 7), x -> x.once(0, 0, 0, 1));
        told("by a schedule in time", x -> {
            x.addSchedule(0, 7);
            x.weekly(0, 0, 1, 1);
        }, x -> x.pass(1));
    }

    private static void told(String what, Consumer<BuildingPoints> before,
            Consumer<BuildingPoints> change) {
        BuildingPoints x = new BuildingPoints();
        x.addSwitch(0, 10);
        before.accept(x);
        x.subscribe(0, 1, 100);
        int old = x.value(0);
        change.accept(x);
        due.are(what, new long[] {1, 1 - old}, () -> x.reports(0), () -> x.reported(0));
    }

    private static void reportsToEachOfAPoint() {
        due.sentence("Subscriptions", "Whenever the value of its point has changed");
        BuildingPoints x = new BuildingPoints();
        x.addMeasure(0);
        for (int i = 1; i < 16; i++) {
            x.addMeasure(0);
        }
        for (int i = 0; i < 30; i++) {
            x.subscribe(i < 2 ? 15 : 0, 1, 100);
        }
        x.write(0, 8, 9);
        for (int i = 0; i < 30; i++) {
            due.is("the first point, subscription " + i, x.reports(i), i < 2 ? 0 : 1);
        }
        x.write(15, 8, 9);
        for (int i = 0; i < 30; i++) {
            due.is("the last point, subscription " + i, x.reports(i), 1);
        }
    }

    // ---- the end

    private static void endsOnlyOnce() {
        due.sentence("Promise 11", "Throws IllegalStateException if it has ended");
        due.takes("in its first minute", x -> subscribed(x, 1), x -> x.end(0));
        due.takes("in its last minute", x -> {
            subscribed(x, 1);
            x.pass(4);
        }, x -> x.end(0));
        due.refuses("when its time has passed", Due.STATE, x -> {
            subscribed(x, 1);
            x.pass(5);
        }, x -> x.end(0));
        due.refuses("long after", Due.STATE, x -> {
            subscribed(x, 1);
            x.pass(5000);
        }, x -> x.end(0));
        due.refuses("when it was ended", Due.STATE, x -> {
            subscribed(x, 2);
            x.end(0);
        }, x -> x.end(0));
        due.refuses("when it was ended, and its time has passed", Due.STATE, x -> {
            subscribed(x, 2);
            x.end(0);
            x.pass(5);
        }, x -> x.end(0));
        due.takes("another", x -> {
            subscribed(x, 2);
            x.end(0);
        }, x -> x.end(1));
    }

    private static void goesOnUntilItEnds() {
        due.sentence("Promise 12", "Tells whether a subscription goes on.");
        BuildingPoints x = new BuildingPoints();
        subscribed(x, 2);
        due.are("at first", new long[] {1, 1}, () -> goesOn(x, 0), () -> goesOn(x, 1));
        x.end(1);
        due.are("one was ended", new long[] {1, 0}, () -> goesOn(x, 0), () -> goesOn(x, 1));
        x.pass(4);
        due.are("the last minute", new long[] {1, 0}, () -> goesOn(x, 0), () -> goesOn(x, 1));
        x.pass(1);
        due.are("passed", new long[] {0, 0}, () -> goesOn(x, 0), () -> goesOn(x, 1));
    }

    private static void countsItsReports() {
        due.sentence("Promise 13", "Returns how many values were reported to a subscription.");
        BuildingPoints x = new BuildingPoints();
        subscribed(x, 1);
        due.is("none at first", x.reports(0), 0);
        for (int i = 1; i <= 100; i++) {
            x.write(0, 1, i % 2);
            due.is("after changes", x.reports(0), i);
        }
    }

    private static void keepsWhatItHadAtItsEnd() {
        due.sentence("Promise 14", "Returns the value that a subscription keeps.");
        BuildingPoints x = new BuildingPoints();
        subscribed(x, 2);
        x.write(0, 8, 30);
        x.end(0);
        x.write(0, 8, 40);
        x.pass(5);
        x.write(0, 8, 50);
        due.are("by end, and by time", new long[] {30, 1, 40, 2}, () -> x.reported(0),
                () -> x.reports(0), () -> x.reported(1), () -> x.reports(1));
    }
}
