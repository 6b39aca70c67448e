/** Promises 10 to 14: subscriptions, and the reports that they are told. */
public final class SubscriptionsTest {
    private static final int NOTHING = Due.NOTHING;
    private static final Due due = new Due("SubscriptionsTest");

    public static void main(String[] args) {
        subscribe();
        subscribeRefuses();
        end();
        goesOn();
        endsInItsMinute();
        reports();
        reportsOfSwitches();
        reported();
        askingRefuses();
        due.close();
    }

    private static void measure(BuildingPoints x) {
        x.addMeasure(10);
        x.addMeasure(20);
    }

    private static void subscribe() {
        BuildingPoints x = new BuildingPoints();
        measure(x);
        due.is("10 least", x.subscribe(0, 1, 1), 0);
        due.is("10 greatest", x.subscribe(1, 2000, 100000), 1);
        x.write(0, 9, 11);
        due.is("10 later", x.subscribe(0, 5, 5), 2);
        due.are("10 keeps the value when it is made", new long[] {20, 11, 0, 0},
                () -> x.reported(1), () -> x.reported(2), () -> x.reports(1), () -> x.reports(2));
        x.end(0);
        x.pass(5);
        for (int i = 3; i < 30; i++) {
            due.is("10 number", x.subscribe(0, 1, 1), i);
        }
        due.is("10 the 31st throws", Due.thrownBy(() -> x.subscribe(0, 1, 1)), Due.STATE.getName());
        due.is("10 the argument comes first", Due.thrownBy(() -> x.subscribe(0, 0, 1)),
                Due.ARGUMENT.getName());
        due.is("10 the point comes first", Due.thrownBy(() -> x.subscribe(2, 0, 1)), Due.INDEX.getName());
        due.is("10 there is no 31st", Due.thrownBy(() -> x.goesOn(30)), Due.INDEX.getName());
    }

    private static void subscribeRefuses() {
        for (int wrong : new int[] {-1, 2, 16, Integer.MIN_VALUE, Integer.MAX_VALUE}) {
            due.refuses("10 point " + wrong, Due.INDEX, SubscriptionsTest::measure,
                    x -> x.subscribe(wrong, 0, 0));
        }
        for (int wrong : new int[] {-1, 0, 2001, Integer.MIN_VALUE, Integer.MAX_VALUE}) {
            due.refuses("10 increment " + wrong, Due.ARGUMENT, SubscriptionsTest::measure,
                    x -> x.subscribe(0, wrong, 1));
        }
        for (int wrong : new int[] {-1, 0, 100001, Integer.MIN_VALUE, Integer.MAX_VALUE}) {
            due.refuses("10 lifetime " + wrong, Due.ARGUMENT, SubscriptionsTest::measure,
                    x -> x.subscribe(0, 1, wrong));
        }
    }

    private static void end() {
        BuildingPoints x = new BuildingPoints();
        measure(x);
        x.subscribe(0, 1, 100);
        x.subscribe(0, 1, 100);
        x.write(0, 9, 12);
        x.end(0);
        due.are("11 only this one", new long[] {0, 1},
                () -> x.goesOn(0) ? 1 : 0, () -> x.goesOn(1) ? 1 : 0);
        x.write(0, 9, 13);
        due.are("11 it keeps what it has", new long[] {1, 12, 2, 13},
                () -> x.reports(0), () -> x.reported(0), () -> x.reports(1), () -> x.reported(1));
        due.refuses("11 ended by end", Due.STATE, SubscriptionsTest::endedTwoWays, y -> y.end(0));
        due.refuses("11 ended by time", Due.STATE, SubscriptionsTest::endedTwoWays, y -> y.end(1));
        for (int wrong : new int[] {-1, 2, 30, Integer.MIN_VALUE, Integer.MAX_VALUE}) {
            due.refuses("11 " + wrong, Due.INDEX, SubscriptionsTest::endedTwoWays, y -> y.end(wrong));
        }
    }

    private static void endedTwoWays(BuildingPoints x) {
        measure(x);
        x.subscribe(0, 1, 100);
        x.end(0);
        x.subscribe(0, 1, 3);
        x.pass(3);
    }

    private static void goesOn() {
        BuildingPoints x = new BuildingPoints();
        measure(x);
        x.pass(10);
        x.subscribe(0, 1, 3);
        due.is("12 at first", x.goesOn(0), true);
        x.pass(2);
        due.is("12 in its last minute", x.goesOn(0), true);
        x.pass(1);
        due.is("12 when its minutes have passed", x.goesOn(0), false);
        x.subscribe(0, 1, 1);
        x.end(1);
        due.is("12 when it was ended", x.goesOn(1), false);
        x.subscribe(0, 1, 100000);
        for (int i = 0; i < 20; i++) {
            x.pass(i < 19 ? 5000 : 4999);
        }
        due.is("12 in the last minute of the longest", x.goesOn(2), true);
        x.pass(1);
        due.is("12 after the longest", x.goesOn(2), false);
    }

    private static void endsInItsMinute() {
        BuildingPoints x = new BuildingPoints();
        x.addSwitch(0, 5);
        x.write(0, 6, 1);
        x.subscribe(0, 1, 5);
        due.is("12 a held command goes before the subscription ends", x.pass(5), 1);
        due.are("12 told of it", new long[] {1, 0, 0},
                () -> x.reports(0), () -> x.reported(0), () -> x.goesOn(0) ? 1 : 0);
        BuildingPoints y = new BuildingPoints();
        y.addMeasure(0);
        y.addSchedule(0, 9);
        y.weekly(0, 0, 5, 50);
        y.subscribe(0, 1, 5);
        y.subscribe(0, 1, 6);
        due.is("12 it ends before the schedules write", y.pass(5), 1);
        due.are("12 not told of it", new long[] {0, 0, 1, 50},
                () -> y.reports(0), () -> y.reported(0), () -> y.reports(1), () -> y.reported(1));
    }

    private static void reports() {
        BuildingPoints x = new BuildingPoints();
        measure(x);
        x.subscribe(0, 3, 1000);
        x.subscribe(0, 1, 1000);
        x.subscribe(1, 1, 1000);
        x.write(0, 9, 12);
        due.are("13 less than the increment", new long[] {0, 1, 0},
                () -> x.reports(0), () -> x.reports(1), () -> x.reports(2));
        x.write(0, 9, 13);
        due.are("13 the increment itself, from what was kept", new long[] {1, 2, 0},
                () -> x.reports(0), () -> x.reports(1), () -> x.reports(2));
        x.write(0, 9, 10);
        due.is("13 downwards", x.reports(0), 2);
        x.write(0, 9, 10);
        x.write(0, 12, 500);
        due.is("13 no change, no report", x.reports(0), 2);
        x.write(0, 9, NOTHING);
        due.is("13 by relinquishing", x.reports(0), 3);
        due.is("13 the other point's", x.reports(2), 0);
        BuildingPoints wide = new BuildingPoints();
        wide.addMeasure(1000);
        wide.subscribe(0, 2000, 1000);
        wide.write(0, 9, -999);
        due.is("13 less than the greatest increment", wide.reports(0), 0);
        wide.write(0, 9, -1000);
        due.is("13 the greatest increment", wide.reports(0), 1);
    }

    private static void reportsOfSwitches() {
        BuildingPoints x = new BuildingPoints();
        x.addSwitch(0, 10);
        x.subscribe(0, 1, 1000);
        x.subscribe(0, 2, 1000);
        x.write(0, 8, 1);
        due.are("13 a held change is told once", new long[] {1, 1, 0},
                () -> x.reports(0), () -> x.reported(0), () -> x.reports(1));
        x.write(0, 8, NOTHING);
        due.is("13 nothing while it is held", x.reports(0), 1);
        due.is("13 told when it goes", x.pass(10), 1);
        due.are("13 once more", new long[] {2, 0}, () -> x.reports(0), () -> x.reported(0));
    }

    private static void reported() {
        BuildingPoints x = new BuildingPoints();
        measure(x);
        x.write(0, 9, -7);
        x.subscribe(0, 4, 10);
        due.is("14 at first", x.reported(0), -7);
        x.write(0, 9, -4);
        due.is("14 not yet", x.reported(0), -7);
        x.write(0, 9, -11);
        due.is("14 told", x.reported(0), -11);
        x.pass(10);
        x.write(0, 9, 500);
        due.is("14 after its end", x.reported(0), -11);
    }

    private static void askingRefuses() {
        for (int wrong : new int[] {-1, 2, 30, Integer.MIN_VALUE, Integer.MAX_VALUE}) {
            due.refuses("12 " + wrong, Due.INDEX, SubscriptionsTest::endedTwoWays, x -> x.goesOn(wrong));
            due.refuses("13 " + wrong, Due.INDEX, SubscriptionsTest::endedTwoWays, x -> x.reports(wrong));
            due.refuses("14 " + wrong, Due.INDEX, SubscriptionsTest::endedTwoWays, x -> x.reported(wrong));
        }
    }
}
