/** What can be asked of an object without changing it, as a text. */
final class Picture {
    private Picture() {
    }

    /** All of it: up to some 430 calls. */
    static String of(BuildingPoints x) {
        StringBuilder out = new StringBuilder(ofTheMoment(x));
        for (int i = 0; i < 16 && hasPoint(x, i); i++) {
            out.append("\npoint ").append(i).append(" by");
            for (int priority = 1; priority <= 16; priority++) {
                out.append(' ').append(x.command(i, priority));
            }
        }
        for (int i = 0; i < 4 && hasSchedule(x, i); i++) {
            out.append("\nschedule ").append(i).append(':');
            for (int time = 0; time <= 12 * 1440; time += 1013) {
                out.append(' ').append(x.tells(i, time));
            }
        }
        return out.toString();
    }

    /** All but the commands and what the schedules tell: up to some 210 calls. */
    static String ofTheMoment(BuildingPoints x) {
        StringBuilder out = new StringBuilder("\nclock " + x.clock());
        for (int i = 0; i < 16 && hasPoint(x, i); i++) {
            out.append("\npoint ").append(i).append(": ").append(x.value(i)).append(' ')
                    .append(x.standing(i)).append(' ').append(x.held(i)).append(' ')
                    .append(x.changes(i));
        }
        for (int i = 0; i < 30 && hasSubscription(x, i); i++) {
            out.append("\nsubscription ").append(i).append(": ").append(x.goesOn(i)).append(' ')
                    .append(x.reports(i)).append(' ').append(x.reported(i));
        }
        return out.toString();
    }

    private static boolean hasPoint(BuildingPoints x, int number) {
        return Due.thrownBy(() -> x.value(number)).equals("nothing");
    }

    private static boolean hasSubscription(BuildingPoints x, int number) {
        return Due.thrownBy(() -> x.goesOn(number)).equals("nothing");
    }

    private static boolean hasSchedule(BuildingPoints x, int number) {
        return Due.thrownBy(() -> x.tells(number, 0)).equals("nothing");
    }
}
