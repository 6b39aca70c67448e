import java.util.function.Consumer;

/** What holds at the edges of a range of numbers, and at the ends of a row of things. */
final class Bounds {
    /** A call with the number that is looked at. */
    interface NumberCall {
        void on(BuildingPoints x, int number);
    }

    private static final int NOTHING = Due.NOTHING;

    private final Due due;

    Bounds(Due due) {
        this.due = due;
    }

    /** The numbers from least to greatest are taken, the next ones on either side are refused. */
    void range(int least, int greatest, Consumer<BuildingPoints> before, NumberCall call) {
        takes(before, call, least, least + 1, greatest - 1, greatest);
        refuses(Due.ARGUMENT, before, call, least - 1, greatest + 1, NOTHING, Integer.MIN_VALUE,
                Integer.MAX_VALUE);
    }

    /** As a range, but that NOTHING is taken too, and not what lies beside it. */
    void rangeOrNothing(int least, int greatest, Consumer<BuildingPoints> before, NumberCall call) {
        takes(before, call, least, least + 1, greatest - 1, greatest, NOTHING);
        refuses(Due.ARGUMENT, before, call, least - 1, greatest + 1, NOTHING - 1, NOTHING + 1,
                -NOTHING, Integer.MIN_VALUE, Integer.MAX_VALUE);
    }

    /** Of a row, there is no place while it is empty, then there are those from 0 to the last. */
    void places(int most, Consumer<BuildingPoints> empty, Consumer<BuildingPoints> add, NumberCall call) {
        for (int there : new int[] {0, 1, 2, most - 1, most}) {
            Consumer<BuildingPoints> before = x -> filled(x, empty, add, there);
            if (there > 0) {
                takes(before, call, 0, there - 1);
            }
            refuses(Due.INDEX, before, call, -1, there, most, most + 1, NOTHING, Integer.MIN_VALUE,
                    Integer.MAX_VALUE);
        }
    }

    private static void filled(BuildingPoints x, Consumer<BuildingPoints> empty,
            Consumer<BuildingPoints> add, int there) {
        empty.accept(x);
        for (int i = 0; i < there; i++) {
            add.accept(x);
        }
    }

    /** Asks the clock once alone, as an object is used for 512 calls. */
    static void passTo(BuildingPoints x, int time) {
        int left = time - x.clock();
        while (left > 0) {
            int next = Math.min(left, 5000);
            x.pass(next);
            left -= next;
        }
    }

    void takes(Consumer<BuildingPoints> before, NumberCall call, int... numbers) {
        for (int number : numbers) {
            due.takes("" + number, before, x -> call.on(x, number));
        }
    }

    void refuses(Class<? extends RuntimeException> want, Consumer<BuildingPoints> before,
            NumberCall call, int... numbers) {
        for (int number : numbers) {
            due.refuses("" + number, want, before, x -> call.on(x, number));
        }
    }
}
