/** Promise 6: positions move, and what is refused changes nothing. */
public final class MoveTest {
    private static final long MOST = Checks.MOST_AT_ONCE;
    private static final int[] NO_POSITIONS = {-1, 200, 201, Integer.MAX_VALUE, Integer.MIN_VALUE};

    public static void main(String[] args) {
        Checks checks = new Checks();
        ordinaryMoves(checks);
        everyPositionIsItsOwn(checks);
        theLargestMoves(checks);
        refused(checks);
        movesInEveryPhase(checks);
        limitUpwards(checks);
        limitDownwards(checks);
        limitOfWhatWentAndCame(checks);
        checks.end();
    }

    private static void ordinaryMoves(Checks checks) {
        DayDesk desk = new DayDesk();
        checks.due("move(4, 5)", desk.move(4, 5), 1);
        checks.dueStatement("came", desk, 4, 0, 0, 5, 5, 1);
        checks.due("move(4, -12)", desk.move(4, -12), 1);
        checks.dueStatement("went", desk, 4, 0, 12, 5, -7, 2);
        checks.due("move(4, 0)", desk.move(4, 0), 0);
        checks.dueStatement("did not move", desk, 4, 0, 12, 5, -7, 2);
        checks.due("move(4, 7)", desk.move(4, 7), 1);
        checks.dueStatement("back at 0", desk, 4, 0, 12, 12, 0, 3);
    }

    private static void everyPositionIsItsOwn(Checks checks) {
        DayDesk desk = new DayDesk();
        for (int position = 0; position < 200; position++) {
            checks.due("move(" + position + ")", desk.move(position, position + 1), 1);
        }
        for (int position = 0; position < 200; position++) {
            checks.due("row(" + position + ", 3)", desk.row(position, 3), position + 1);
        }
        checks.dueStatement("first", desk, 0, 0, 0, 1, 1, 1);
        checks.dueStatement("last", desk, 199, 0, 0, 200, 200, 1);
    }

    private static void theLargestMoves(Checks checks) {
        DayDesk desk = new DayDesk();
        checks.due("move(0, 10 ^ 16)", desk.move(0, MOST), 1);
        checks.due("move(199, -10 ^ 16)", desk.move(199, -MOST), 1);
        checks.dueStatement("largest", desk, 0, 0, 0, MOST, MOST, 1);
        checks.dueStatement("largest", desk, 199, 0, MOST, 0, -MOST, 1);
    }

    private static void refused(Checks checks) {
        DayDesk desk = new DayDesk();
        desk.move(0, 3);
        desk.move(199, -3);
        for (int position : NO_POSITIONS) {
            checks.due("move(" + position + ", 1)", desk.move(position, 1), -1);
            checks.due("move(" + position + ", 0)", desk.move(position, 0), -1);
        }
        long[] wrong = {MOST + 1, -MOST - 1, Long.MAX_VALUE, Long.MIN_VALUE, Long.MIN_VALUE + 1};
        for (long v : wrong) {
            checks.due("move(0, " + v + ")", desk.move(0, v), -1);
            checks.due("move(199, " + v + ")", desk.move(199, v), -1);
            checks.due("move(200, " + v + ")", desk.move(200, v), -1);
        }
        checks.dueStatement("refused", desk, 0, 0, 0, 3, 3, 1);
        checks.dueStatement("refused", desk, 199, 0, 3, 0, -3, 1);
    }

    private static void movesInEveryPhase(Checks checks) {
        int[] ticks = {0, 100, 700, 800, 900};
        for (int tick : ticks) {
            checks.due("tick " + tick + ": move(1, 2)", Checks.deskAt(tick).move(1, 2), 1);
        }
    }

    // The limit of 9 * 10 ^ 18 takes 900 moves, more than the calls an object is promised for;
    // these three show that the test of it stands nevertheless.

    private static void limitUpwards(Checks checks) {
        DayDesk desk = new DayDesk();
        moveOften(checks, desk, MOST, 450);
        desk.skip(1000);
        moveOften(checks, desk, MOST, 450);
        long limit = 900 * MOST;
        checks.due("above the limit", desk.move(9, 1), -1);
        checks.due("above the limit", desk.move(9, MOST), -1);
        checks.dueStatement("at the limit", desk, 9, limit / 2, 0, limit / 2, limit, 450);
        checks.due("away from the limit", desk.move(9, -1), 1);
        checks.due("to the limit", desk.move(9, 1), 1);
    }

    private static void limitDownwards(Checks checks) {
        DayDesk desk = new DayDesk();
        moveOften(checks, desk, -MOST, 450);
        desk.skip(1000);
        moveOften(checks, desk, -MOST, 450);
        long limit = 900 * MOST;
        checks.due("below the limit", desk.move(9, -1), -1);
        checks.due("below the limit", desk.move(9, -MOST), -1);
        checks.dueStatement("at the limit", desk, 9, -limit / 2, limit / 2, 0, -limit, 450);
        checks.due("away from the limit", desk.move(9, 1), 1);
        desk.skip(1000);
        checks.due("write(9)", desk.write(9), 20 + 1 + 1 + 1 + 1 + 1 + 20 + 1 + 1);
        checks.due("row", Checks.lastRow(desk), "-8999999999999999999 0 0 -8999999999999999999 0");
    }

    private static void limitOfWhatWentAndCame(Checks checks) {
        DayDesk desk = new DayDesk();
        for (int i = 0; i < 900; i++) {
            checks.due("to", desk.move(9, MOST), 1);
            checks.due("fro", desk.move(9, -MOST), 1);
        }
        long limit = 900 * MOST;
        checks.due("came above the limit", desk.move(9, 1), -1);
        checks.due("went above the limit", desk.move(9, -1), -1);
        checks.due("no move", desk.move(9, 0), 0);
        checks.dueStatement("to and fro", desk, 9, 0, limit, limit, 0, 1800);
        desk.skip(1000);
        checks.due("on the next day", desk.move(9, 1), 1);
    }

    private static void moveOften(Checks checks, DayDesk desk, long v, int times) {
        for (int i = 0; i < times; i++) {
            checks.due("move(9, " + v + ")", desk.move(9, v), 1);
        }
    }
}
