import java.util.List;
import java.util.function.Function;
import java.util.function.IntSupplier;

/**
 * What later calls answer, as texts: each row for an object of its own, as an object is used for
 * 512 calls alone.
 */
final class Later {
    static final List<Function<BuildingPoints, String>> ROWS = List.of(Picture::of, Later::points,
            Later::subscriptions, Later::schedules, Later::entries, Later::commands, Later::ends,
            Later::minutes);

    private final StringBuilder out = new StringBuilder();

    private Later() {
    }

    private void add(String call, IntSupplier answer) {
        out.append(' ').append(call).append(' ');
        try {
            out.append(answer.getAsInt());
        } catch (RuntimeException e) {
            out.append(e.getClass().getName());
        }
    }

    private static String points(BuildingPoints x) {
        Later later = new Later();
        later.add("addMeasure", () -> x.addMeasure(7));
        later.add("addSwitch", () -> x.addSwitch(1, 3));
        return later.out + Picture.ofTheMoment(x);
    }

    private static String subscriptions(BuildingPoints x) {
        Later later = new Later();
        later.add("subscribe", () -> x.subscribe(0, 1, 5));
        later.add("subscribe", () -> x.subscribe(1, 2000, 1));
        return later.out + Picture.ofTheMoment(x);
    }

    private static String schedules(BuildingPoints x) {
        Later later = new Later();
        later.add("addSchedule", () -> x.addSchedule(0, 9));
        later.add("addSchedule", () -> x.addSchedule(1, 16));
        later.add("weekly", () -> x.weekly(0, 0, 0, 1));
        return later.out + Picture.ofTheMoment(x);
    }

    /** Each schedule takes as many entries as it has room for. */
    private static String entries(BuildingPoints x) {
        Later later = new Later();
        for (int i = 0; i < 4; i++) {
            int schedule = i;
            for (int added = 0; added <= 20; added++) {
                int value = added % 2;
                later.add("weekly", () -> x.weekly(schedule, 0, 0, value));
            }
        }
        return later.out + Picture.ofTheMoment(x);
    }

    private static String commands(BuildingPoints x) {
        Later later = new Later();
        for (int i = 0; i < 16; i++) {
            int point = i;
            later.add("write", () -> x.write(point, 6, 1));
            later.add("write", () -> x.write(point, 16, 0));
            later.add("write", () -> x.write(point, 1, Due.NOTHING));
        }
        return later.out + Picture.ofTheMoment(x);
    }

    private static String ends(BuildingPoints x) {
        Later later = new Later();
        for (int i = 0; i < 30; i++) {
            int subscription = i;
            later.add("end", () -> {
                x.end(subscription);
                return 0;
            });
        }
        return later.out + Picture.ofTheMoment(x);
    }

    private static String minutes(BuildingPoints x) {
        Later later = new Later();
        later.add("pass", () -> x.pass(1));
        later.add("pass", () -> x.pass(8));
        String early = Picture.ofTheMoment(x);
        later.add("pass", () -> x.pass(1500));
        return later.out + early + Picture.ofTheMoment(x);
    }
}
