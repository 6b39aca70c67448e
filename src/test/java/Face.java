/** The calls of the class by their names; a boolean counts 1 or 0, and end answers 0. */
final class Face {
    private Face() {
    }

    static int answer(BuildingPoints x, String call, int[] a) {
        switch (call) {
            case "addMeasure": return x.addMeasure(a[0]);
            case "addSwitch": return x.addSwitch(a[0], a[1]);
            case "write": return x.write(a[0], a[1], a[2]);
            case "value": return x.value(a[0]);
            case "command": return x.command(a[0], a[1]);
            case "standing": return x.standing(a[0]);
            case "held": return x.held(a[0]);
            case "changes": return x.changes(a[0]);
            case "subscribe": return x.subscribe(a[0], a[1], a[2]);
            case "end": return end(x, a[0]);
            case "goesOn": return x.goesOn(a[0]) ? 1 : 0;
            case "reports": return x.reports(a[0]);
            case "reported": return x.reported(a[0]);
            case "addSchedule": return x.addSchedule(a[0], a[1]);
            case "weekly": return x.weekly(a[0], a[1], a[2], a[3]);
            case "once": return x.once(a[0], a[1], a[2], a[3]);
            case "tells": return x.tells(a[0], a[1]);
            case "pass": return x.pass(a[0]);
            case "clock": return x.clock();
            default: throw new Error(call);
        }
    }

    private static int end(BuildingPoints x, int subscription) {
        x.end(subscription);
        return 0;
    }
}
