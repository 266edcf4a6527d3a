/** Promise 7: what a statement tells. */
public final class RowTest {
    public static void main(String[] args) {
        Checks checks = new Checks();
        DayDesk desk = new DayDesk();
        desk.move(0, 100);
        desk.move(199, -40);
        checks.dueStatement("day 0", desk, 0, 0, 0, 100, 100, 1);
        checks.dueStatement("day 0", desk, 199, 0, 40, 0, -40, 1);
        desk.skip(1000);
        desk.move(0, -30);
        desk.move(0, -2);
        desk.move(0, 7);
        checks.dueStatement("day 1", desk, 0, 100, 32, 7, 75, 3);
        checks.dueStatement("day 1", desk, 199, -40, 0, 0, -40, 0);
        checks.dueStatement("day 1", desk, 1, 0, 0, 0, 0, 0);
        noSuch(checks, desk);
        checks.dueStatement("afterwards", desk, 0, 100, 32, 7, 75, 3);
        checks.end();
    }

    private static void noSuch(Checks checks, DayDesk desk) {
        int[] wrong = {-1, 200, 201, Integer.MAX_VALUE, Integer.MIN_VALUE};
        int[] noWhat = {-1, 5, 6, Integer.MAX_VALUE, Integer.MIN_VALUE};
        for (int position : wrong) {
            checks.dueStatement("no such position", desk, position, 0, 0, 0, 0, 0);
        }
        for (int what : noWhat) {
            checks.due("row(0, " + what + ")", desk.row(0, what), 0);
            checks.due("row(199, " + what + ")", desk.row(199, what), 0);
            checks.due("row(200, " + what + ")", desk.row(200, what), 0);
        }
    }
}
