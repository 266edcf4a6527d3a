/** Promise 2: pass tells what its tick brings. */
public final class PassTest {
    public static void main(String[] args) {
        Checks checks = new Checks();
        everyTickOfADay(checks);
        everyTickOfADayThatIsNotTheFirst(checks);
        aDayThatBeginsOpensStatements(checks);
        checks.end();
    }

    private static int eventsAt(int tick) {
        switch (tick) {
            case 150: case 200: case 250: case 300: case 350:
            case 400: case 450: case 500: case 550: case 600:
            case 650: case 700: case 750: case 800: case 850:
                return 1;
            case 900:
                return 3;
            case 0:
                return 4;
            default:
                return 0;
        }
    }

    private static void everyTickOfADay(Checks checks) {
        for (int tick = 0; tick < 1000; tick++) {
            passFrom(checks, Checks.deskAt(tick), 0, tick);
        }
    }

    private static void everyTickOfADayThatIsNotTheFirst(Checks checks) {
        for (int tick = 0; tick < 1000; tick++) {
            passFrom(checks, Checks.deskAt(41000 + tick), 41, tick);
        }
    }

    private static void passFrom(Checks checks, DayDesk desk, int day, int tick) {
        int next = (tick + 1) % 1000;
        checks.due("pass() to tick " + next, desk.pass(), eventsAt(next));
        checks.dueTime("passed from " + tick, desk, next == 0 ? day + 1 : day, next);
    }

    private static void aDayThatBeginsOpensStatements(Checks checks) {
        DayDesk desk = Checks.deskAt(998);
        desk.move(0, 9);
        desk.move(199, 5);
        desk.move(199, -8);
        desk.pass();
        checks.dueStatement("tick 999", desk, 199, 0, 8, 5, -3, 2);
        desk.pass();
        checks.dueStatement("next day", desk, 0, 9, 0, 0, 9, 0);
        checks.dueStatement("next day", desk, 199, -3, 0, 0, -3, 0);
    }
}
