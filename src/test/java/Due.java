import java.util.function.Consumer;
import java.util.function.Function;
import java.util.function.LongSupplier;

/** Counts the answers that a test asks for, and prints those that are not as due. */
final class Due {
    static final int NOTHING = BuildingPoints.NOTHING;
    static final Class<IndexOutOfBoundsException> INDEX = IndexOutOfBoundsException.class;
    static final Class<IllegalArgumentException> ARGUMENT = IllegalArgumentException.class;
    static final Class<IllegalStateException> STATE = IllegalStateException.class;

    private final String test;
    private String sentence = "";
    private int asked;
    private int wrong;

    Due(String test) {
        this.test = test;
    }

    /** The words of the document that ask for the answers from here on, and where they stand in it. */
    void sentence(String where, String words) {
        sentence = where + ", \"" + words + "\": ";
    }

    void is(String what, Object got, Object want) {
        asked++;
        if (!got.equals(want)) {
            wrong++;
            System.out.println(test + ": " + sentence + what + " answered " + got + ", due is " + want);
        }
    }

    void is(String what, boolean got) {
        is(what, got, true);
    }

    /** The answer of each call, in their order. */
    void are(String what, long[] want, LongSupplier... calls) {
        for (int i = 0; i < calls.length; i++) {
            is(what + ", answer " + i, calls[i].getAsLong(), want[i]);
        }
    }

    /** The call throws nothing. */
    void takes(String what, Consumer<BuildingPoints> before, Consumer<BuildingPoints> call) {
        BuildingPoints x = made(before);
        is(what + " throws", thrownBy(() -> call.accept(x)), "nothing");
    }

    /** The call throws an exception of this very class, and no later call answers otherwise for it. */
    void refuses(String what, Class<? extends RuntimeException> want, Consumer<BuildingPoints> before,
            Consumer<BuildingPoints> call) {
        BuildingPoints x = made(before);
        is(what + " throws", thrownBy(() -> call.accept(x)), want.getName());
        for (Function<BuildingPoints, String> later : Later.ROWS) {
            BuildingPoints refused = made(before);
            thrownBy(() -> call.accept(refused));
            is(what + " leaves", later.apply(refused), later.apply(made(before)));
        }
    }

    private static BuildingPoints made(Consumer<BuildingPoints> before) {
        BuildingPoints x = new BuildingPoints();
        before.accept(x);
        return x;
    }

    static String thrownBy(Runnable call) {
        try {
            call.run();
        } catch (RuntimeException e) {
            return e.getClass().getName();
        }
        return "nothing";
    }

    void close() {
        System.out.println(test + ": " + asked + " answers, " + wrong + " not as due");
        if (wrong != 0) {
            System.exit(1);
        }
    }
}
