/** Promise 6: positions move, and what is refused changes nothing. */
public final class MoveTest {
    private static final long MOST = Checks.MOST_AT_ONCE;
    private static final int[] NO_POSITIONS = {-1, 200, 201, Integer.MAX_VALUE, Integer.MIN_VALUE};

    public static void main(String[] args) {
        Checks checks = new Checks();
        ordinaryMoves(checks);
        everyPositionIsItsOwn(checks);
        theLargestMoves(checks);
        refused(checks);
        movesInEveryPhase(checks);
        aMoveChangesNothingElse(checks);
        checks.end();
    }

    private static void ordinaryMoves(Checks checks) {
        DayDesk desk = new DayDesk();
        checks.due("move(4, 5)", desk.move(4, 5), 1);
        checks.dueStatement("came", desk, 4, 0, 0, 5, 5, 1);
        checks.due("move(4, -12)", desk.move(4, -12), 1);
        checks.dueStatement("went", desk, 4, 0, 12, 5, -7, 2);
        checks.due("move(4, 0)", desk.move(4, 0), 0);
        checks.dueStatement("did not move", desk, 4, 0, 12, 5, -7, 2);
        checks.due("move(4, 7)", desk.move(4, 7), 1);
        checks.dueStatement("back at 0", desk, 4, 0, 12, 12, 0, 3);
    }

    private static void everyPositionIsItsOwn(Checks checks) {
        DayDesk desk = new DayDesk();
        for (int position = 0; position < 200; position++) {
            checks.due("move(" + position + ")", desk.move(position, position + 1), 1);
        }
        for (int position = 0; position < 200; position++) {
            checks.due("row(" + position + ", 3)", desk.row(position, 3), position + 1);
        }
        checks.dueStatement("first", desk, 0, 0, 0, 1, 1, 1);
        checks.dueStatement("last", desk, 199, 0, 0, 200, 200, 1);
    }

    private static void theLargestMoves(Checks checks) {
        DayDesk desk = new DayDesk();
        checks.due("move(0, 10 ^ 16)", desk.move(0, MOST), 1);
        checks.due("move(199, -10 ^ 16)", desk.move(199, -MOST), 1);
        checks.dueStatement("largest", desk, 0, 0, 0, MOST, MOST, 1);
        checks.dueStatement("largest", desk, 199, 0, MOST, 0, -MOST, 1);
    }

    private static void refused(Checks checks) {
        DayDesk desk = new DayDesk();
        desk.move(0, 3);
        desk.move(199, -3);
        for (int position : NO_POSITIONS) {
            checks.due("move(" + position + ", 1)", desk.move(position, 1), -1);
            checks.due("move(" + position + ", 0)", desk.move(position, 0), -1);
        }
        long[] wrong = {MOST + 1, -MOST - 1, Long.MAX_VALUE, Long.MIN_VALUE, Long.MIN_VALUE + 1};
        for (long v : wrong) {
            checks.due("move(0, " + v + ")", desk.move(0, v), -1);
            checks.due("move(199, " + v + ")", desk.move(199, v), -1);
            checks.due("move(200, " + v + ")", desk.move(200, v), -1);
        }
        checks.dueStatement("refused", desk, 0, 0, 0, 3, 3, 1);
        checks.dueStatement("refused", desk, 199, 0, 3, 0, -3, 1);
    }

    private static void movesInEveryPhase(Checks checks) {
        int[] ticks = {0, 100, 700, 800, 900};
        for (int tick : ticks) {
            checks.due("tick " + tick + ": move(1, 2)", Checks.deskAt(tick).move(1, 2), 1);
        }
    }

    private static void aMoveChangesNothingElse(Checks checks) {
        DayDesk desk = Checks.deskAt(555);
        desk.move(6, -4);
        desk.write(6);
        String due = Checks.shown(desk);
        desk.move(5, 9);
        desk.move(8, -9);
        checks.due("shown of time, other positions and the row", Checks.shown(desk), due);
    }
}
