/** Promises 1 to 9: a new object, and its points. */
public final class PointsTest {
    private static final int NOTHING = Due.NOTHING;
    private static final Due due = new Due("PointsTest");

    public static void main(String[] args) {
        aNewObject();
        addMeasure();
        addSwitch();
        write();
        writeRefuses();
        writeKnowsOnlyHeldCommands();
        value();
        command();
        standing();
        held();
        changesHoldPrioritySix();
        changesByLowerPrioritiesHoldAnew();
        releasesHeldCommands();
        changes();
        askingRefuses();
        due.close();
    }

    private static void aNewObject() {
        BuildingPoints x = new BuildingPoints();
        due.is("1 clock", x.clock(), 0);
        due.refuses("1 no point", Due.INDEX, y -> { }, y -> y.value(0));
        due.refuses("1 no subscription", Due.INDEX, y -> { }, y -> y.goesOn(0));
        due.refuses("1 no schedule", Due.INDEX, y -> { }, y -> y.tells(0, 0));
        BuildingPoints other = new BuildingPoints();
        due.is("1 first point", x.addMeasure(5), 0);
        due.is("1 first subscription", x.subscribe(0, 1, 1), 0);
        due.is("1 first schedule", x.addSchedule(0, 7), 0);
        x.pass(3);
        due.is("1 the other object's clock", other.clock(), 0);
        due.is("1 the other object's first point", other.addSwitch(1, 0), 0);
        due.is("1 the other object's value", other.value(0), 1);
    }

    private static void addMeasure() {
        BuildingPoints x = new BuildingPoints();
        due.is("2 least default", x.addMeasure(-1000), 0);
        due.is("2 greatest default", x.addMeasure(1000), 1);
        due.is("2 switches count too", x.addSwitch(0, 0), 2);
        due.is("2 a number after a switch", x.addMeasure(7), 3);
        due.are("2 values", new long[] {-1000, 1000, 7, 17, 0, 0}, () -> x.value(0), () -> x.value(1),
                () -> x.value(3), () -> x.standing(3), () -> x.held(3), () -> x.changes(3));
        for (int i = 4; i < 16; i++) {
            due.is("2 number", x.addMeasure(i), i);
        }
        due.is("2 the 17th throws", Due.thrownBy(() -> x.addMeasure(0)), Due.STATE.getName());
        due.is("2 the argument comes first", Due.thrownBy(() -> x.addMeasure(1001)), Due.ARGUMENT.getName());
        due.is("2 there is no 17th", Due.thrownBy(() -> x.value(16)), Due.INDEX.getName());
        for (int wrong : new int[] {-1001, 1001, NOTHING, Integer.MIN_VALUE, Integer.MAX_VALUE}) {
            due.refuses("2 " + wrong, Due.ARGUMENT, y -> y.addMeasure(3), y -> y.addMeasure(wrong));
        }
        measuresNeverHold();
    }

    private static void measuresNeverHold() {
        BuildingPoints x = new BuildingPoints();
        x.addMeasure(0);
        x.write(0, 8, 1);
        due.are("2 a measure holds nothing", new long[] {0, NOTHING, 9},
                () -> x.held(0), () -> x.command(0, 6), () -> x.write(0, 6, 9));
    }

    private static void addSwitch() {
        BuildingPoints x = new BuildingPoints();
        due.is("3 off, no least time", x.addSwitch(0, 0), 0);
        due.is("3 on, longest least time", x.addSwitch(1, 1000), 1);
        due.is("3 measures count too", x.addMeasure(0), 2);
        due.is("3 a number after a measure", x.addSwitch(1, 3), 3);
        due.are("3 values", new long[] {0, 1, 1, 17, 0, 0}, () -> x.value(0), () -> x.value(1),
                () -> x.value(3), () -> x.standing(3), () -> x.held(3), () -> x.changes(3));
        for (int i = 4; i < 16; i++) {
            due.is("3 number", x.addSwitch(i % 2, i), i);
        }
        due.is("3 the 17th throws", Due.thrownBy(() -> x.addSwitch(0, 0)), Due.STATE.getName());
        due.is("3 value comes first", Due.thrownBy(() -> x.addSwitch(2, 0)), Due.ARGUMENT.getName());
        due.is("3 least comes first", Due.thrownBy(() -> x.addSwitch(0, -1)), Due.ARGUMENT.getName());
        due.is("3 there is no 17th", Due.thrownBy(() -> x.value(16)), Due.INDEX.getName());
        for (int wrong : new int[] {-1, 2, NOTHING, Integer.MIN_VALUE, Integer.MAX_VALUE}) {
            due.refuses("3 value " + wrong, Due.ARGUMENT, y -> y.addMeasure(3), y -> y.addSwitch(wrong, 0));
        }
        for (int wrong : new int[] {-1, 1001, Integer.MIN_VALUE, Integer.MAX_VALUE}) {
            due.refuses("3 least " + wrong, Due.ARGUMENT, y -> y.addMeasure(3), y -> y.addSwitch(1, wrong));
        }
    }

    private static void write() {
        BuildingPoints x = new BuildingPoints();
        x.addMeasure(20);
        due.is("4 lowest place of priorities", x.write(0, 16, -1000), -1000);
        due.is("4 a higher one", x.write(0, 8, 1000), 1000);
        due.is("4 below it no change", x.write(0, 9, 3), 1000);
        due.is("4 the highest", x.write(0, 1, 5), 5);
        due.is("4 anew", x.write(0, 1, 6), 6);
        due.is("4 relinquished below", x.write(0, 8, NOTHING), 6);
        due.is("4 relinquished", x.write(0, 1, NOTHING), 3);
        due.is("4 relinquished again", x.write(0, 1, NOTHING), 3);
        due.is("4 relinquished where none was", x.write(0, 5, NOTHING), 3);
        due.is("4 the next", x.write(0, 9, NOTHING), -1000);
        due.is("4 the default again", x.write(0, 16, NOTHING), 20);
        BuildingPoints two = new BuildingPoints();
        two.addMeasure(1);
        two.addMeasure(2);
        two.write(1, 4, 9);
        due.are("4 the other point stays", new long[] {1, 9, NOTHING, 9}, () -> two.value(0),
                () -> two.value(1), () -> two.command(0, 4), () -> two.command(1, 4));
    }

    private static void writeRefuses() {
        for (int wrong : new int[] {-1, 2, 16, Integer.MIN_VALUE, Integer.MAX_VALUE}) {
            due.refuses("4 point " + wrong, Due.INDEX, PointsTest::measureAndHeldSwitch,
                    x -> x.write(wrong, 0, 5000));
        }
        for (int wrong : new int[] {-1, 0, 17, Integer.MIN_VALUE, Integer.MAX_VALUE}) {
            due.refuses("4 priority " + wrong, Due.ARGUMENT, PointsTest::measureAndHeldSwitch,
                    x -> x.write(0, wrong, 1));
        }
        for (int wrong : new int[] {-1001, 1001, NOTHING + 1, NOTHING - 1, Integer.MAX_VALUE}) {
            due.refuses("4 measure " + wrong, Due.ARGUMENT, PointsTest::measureAndHeldSwitch,
                    x -> x.write(0, 1, wrong));
        }
        for (int wrong : new int[] {-1, 2, 1000, Integer.MIN_VALUE}) {
            due.refuses("4 switch " + wrong, Due.ARGUMENT, PointsTest::measureAndHeldSwitch,
                    x -> x.write(1, 6, wrong));
        }
        for (int held : new int[] {0, 1, NOTHING}) {
            due.refuses("4 held " + held, Due.STATE, PointsTest::measureAndHeldSwitch,
                    x -> x.write(1, 6, held));
        }
    }

    private static void measureAndHeldSwitch(BuildingPoints x) {
        x.addMeasure(20);
        x.addSwitch(0, 10);
        x.write(1, 9, 1);
    }

    private static void writeKnowsOnlyHeldCommands() {
        BuildingPoints x = new BuildingPoints();
        x.addSwitch(0, 10);
        due.are("4 at 6 without a change", new long[] {0, 0, 0, NOTHING},
                () -> x.write(0, 6, 0), () -> x.held(0), () -> x.write(0, 6, NOTHING), () -> x.command(0, 6));
        due.are("4 at 6 with a change", new long[] {1, 10}, () -> x.write(0, 6, 1), () -> x.held(0));
        BuildingPoints free = new BuildingPoints();
        free.addSwitch(0, 0);
        due.are("4 at 6 with no least time", new long[] {1, 0, 0, 0}, () -> free.write(0, 6, 1),
                () -> free.held(0), () -> free.write(0, 6, NOTHING), () -> free.held(0));
    }

    private static void value() {
        BuildingPoints x = new BuildingPoints();
        x.addMeasure(-3);
        due.is("5 default", x.value(0), -3);
        x.write(0, 12, 40);
        due.is("5 commanded", x.value(0), 40);
        x.write(0, 13, 41);
        due.is("5 by the lowest priority", x.value(0), 40);
        x.write(0, 11, -1000);
        due.is("5 by a lower priority", x.value(0), -1000);
        x.write(0, 11, NOTHING);
        x.write(0, 12, NOTHING);
        due.is("5 by what is left", x.value(0), 41);
    }

    private static void command() {
        BuildingPoints x = new BuildingPoints();
        x.addMeasure(9);
        for (int priority = 1; priority <= 16; priority++) {
            due.is("6 none at first", x.command(0, priority), NOTHING);
            x.write(0, priority, priority * 10);
        }
        for (int priority = 1; priority <= 16; priority++) {
            due.is("6 its own", x.command(0, priority), priority * 10);
        }
        x.write(0, 7, NOTHING);
        due.are("6 relinquished alone", new long[] {60, NOTHING, 80},
                () -> x.command(0, 6), () -> x.command(0, 7), () -> x.command(0, 8));
        for (int wrong : new int[] {-1, 0, 17, Integer.MIN_VALUE, Integer.MAX_VALUE}) {
            due.refuses("6 priority " + wrong, Due.ARGUMENT, y -> y.addMeasure(0), y -> y.command(0, wrong));
            due.refuses("6 the point comes first", Due.INDEX, y -> y.addMeasure(0), y -> y.command(1, wrong));
        }
    }

    private static void standing() {
        BuildingPoints x = new BuildingPoints();
        x.addMeasure(0);
        due.is("7 none", x.standing(0), 17);
        x.write(0, 16, 0);
        due.is("7 a command of the default value", x.standing(0), 16);
        x.write(0, 1, 0);
        due.is("7 the lowest", x.standing(0), 1);
        x.write(0, 8, 0);
        x.write(0, 1, NOTHING);
        due.is("7 the next", x.standing(0), 8);
        BuildingPoints y = new BuildingPoints();
        y.addSwitch(0, 5);
        y.write(0, 9, 1);
        due.is("7 the held command counts", y.standing(0), 6);
        y.write(0, 3, 1);
        due.is("7 below it another", y.standing(0), 3);
        y.pass(5);
        y.write(0, 3, NOTHING);
        due.is("7 no held command any more", y.standing(0), 9);
    }

    private static void held() {
        BuildingPoints x = new BuildingPoints();
        x.addSwitch(0, 3);
        due.is("8 none", x.held(0), 0);
        x.write(0, 16, 0);
        due.is("8 none without a change", x.held(0), 0);
        x.pass(7);
        x.write(0, 10, 1);
        due.is("8 all of it", x.held(0), 3);
        x.pass(2);
        due.is("8 the last minute", x.held(0), 1);
        x.pass(1);
        due.is("8 passed", x.held(0), 0);
        due.are("8 the longest", new long[] {1, 0, 1000},
                () -> x.addSwitch(1, 1000), () -> x.write(1, 8, 0), () -> x.held(1));
        x.pass(999);
        due.is("8 the last of the longest", x.held(1), 1);
    }

    private static void changesHoldPrioritySix() {
        BuildingPoints x = new BuildingPoints();
        x.addSwitch(0, 10);
        x.write(0, 10, 1);
        due.are("4 held", new long[] {1, 1, 6}, () -> x.value(0), () -> x.command(0, 6), () -> x.standing(0));
        due.are("4 a higher number does not change it", new long[] {1, 10, 1},
                () -> x.write(0, 10, 0), () -> x.held(0), () -> x.changes(0));
        BuildingPoints lost = new BuildingPoints();
        lost.addSwitch(0, 10);
        lost.write(0, 6, 0);
        due.are("4 a command at 6 is lost", new long[] {1, 1, 10, 1}, () -> lost.write(0, 2, 1),
                () -> lost.command(0, 6), () -> lost.held(0), () -> lost.write(0, 2, NOTHING));
        lost.pass(10);
        due.are("4 it does not come back", new long[] {0, 0, 2},
                () -> lost.value(0), () -> lost.command(0, 6), () -> lost.changes(0));
    }

    private static void changesByLowerPrioritiesHoldAnew() {
        BuildingPoints x = new BuildingPoints();
        x.addSwitch(0, 10);
        x.write(0, 10, 1);
        x.pass(4);
        due.are("4 the same value by a lower priority holds nothing anew", new long[] {1, 6},
                () -> x.write(0, 5, 1), () -> x.held(0));
        due.are("4 another value by a lower priority holds it", new long[] {0, 10, 0},
                () -> x.write(0, 5, 0), () -> x.held(0), () -> x.command(0, 6));
        x.pass(9);
        due.are("4 still held", new long[] {1, 0, 0},
                () -> x.held(0), () -> x.write(0, 5, NOTHING), () -> x.value(0));
        x.pass(1);
        due.are("4 then the command at 10 counts, and is held", new long[] {1, 10, 1, 3},
                () -> x.value(0), () -> x.held(0), () -> x.command(0, 6), () -> x.changes(0));
    }

    private static void releasesHeldCommands() {
        BuildingPoints x = new BuildingPoints();
        x.addSwitch(0, 5);
        x.write(0, 8, 1);
        x.pass(5);
        due.are("8 taken away without a change", new long[] {0, NOTHING, 1, 8, 1}, () -> x.held(0),
                () -> x.command(0, 6), () -> x.value(0), () -> x.standing(0), () -> x.changes(0));
        due.is("8 then 6 can be written to", x.write(0, 6, 1), 1);
        due.is("8 and relinquished", x.write(0, 6, NOTHING), 1);
        BuildingPoints under = new BuildingPoints();
        under.addSwitch(0, 5);
        under.write(0, 2, 1);
        under.pass(5);
        due.are("8 taken away below a lower priority", new long[] {0, NOTHING, 2},
                () -> under.held(0), () -> under.command(0, 6), () -> under.standing(0));
        BuildingPoints swings = new BuildingPoints();
        swings.addSwitch(0, 1);
        swings.write(0, 6, 1);
        swings.pass(1);
        due.are("8 a change by taking away is held", new long[] {0, 1, 0, 2}, () -> swings.value(0),
                () -> swings.held(0), () -> swings.command(0, 6), () -> swings.changes(0));
        swings.pass(1);
        due.are("8 and passes", new long[] {0, 0, 17, 2}, () -> swings.value(0),
                () -> swings.held(0), () -> swings.standing(0), () -> swings.changes(0));
    }

    private static void changes() {
        BuildingPoints x = new BuildingPoints();
        x.addMeasure(4);
        x.write(0, 9, 4);
        due.is("9 none by the same value", x.changes(0), 0);
        x.write(0, 9, 5);
        x.write(0, 10, 6);
        due.is("9 one", x.changes(0), 1);
        x.write(0, 9, NOTHING);
        x.write(0, 10, NOTHING);
        due.is("9 relinquishing counts", x.changes(0), 3);
        x.addSwitch(0, 4);
        x.write(1, 6, 1);
        due.is("9 of a switch", x.changes(1), 1);
        x.pass(4);
        due.are("9 the held command's end counts", new long[] {2, 3}, () -> x.changes(1), () -> x.changes(0));
    }

    private static void askingRefuses() {
        for (int wrong : new int[] {-1, 2, 16, Integer.MIN_VALUE, Integer.MAX_VALUE}) {
            due.refuses("5 point " + wrong, Due.INDEX, PointsTest::measureAndHeldSwitch, x -> x.value(wrong));
            due.refuses("6 point " + wrong, Due.INDEX, PointsTest::measureAndHeldSwitch,
                    x -> x.command(wrong, 1));
            due.refuses("7 point " + wrong, Due.INDEX, PointsTest::measureAndHeldSwitch,
                    x -> x.standing(wrong));
            due.refuses("8 point " + wrong, Due.INDEX, PointsTest::measureAndHeldSwitch, x -> x.held(wrong));
            due.refuses("9 point " + wrong, Due.INDEX, PointsTest::measureAndHeldSwitch,
                    x -> x.changes(wrong));
        }
    }
}
