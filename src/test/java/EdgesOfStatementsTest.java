/** Each sentence of promises 6, 7 and 8 that names an edge, on both sides of it. */
public final class EdgesOfStatementsTest {
    private static final long MOST = Checks.MOST_AT_ONCE;
    private static final String LIMITS =
        "what it is then, or what went or came, is not -9 * 10 ^ 18 .. 9 * 10 ^ 18";
    private static final int[] NO_POSITIONS = {Integer.MIN_VALUE, -2, -1, 200, 201, Integer.MAX_VALUE};

    private final Checks checks = new Checks();

    public static void main(String[] args) {
        EdgesOfStatementsTest test = new EdgesOfStatementsTest();
        test.itDoesNotMoveBy0();
        test.thereIsNoSuchPosition();
        test.theLargestMoves();
        test.asFarUpAs512CallsGo();
        test.asFarDownAs512CallsGo();
        test.asFarAs512CallsGoOverDays();
        test.asFarToAndFroAs512CallsGo();
        test.rowOfNoSuchPosition();
        test.rowOfNoSuchWhat();
        test.itsOpeningIsNot0();
        test.itMovedToday();
        test.checks.end();
    }

    private void itDoesNotMoveBy0() {
        checks.sentence("0 if v is 0 (it does not move)");
        DayDesk desk = new DayDesk();
        checks.due("move(0, 0)", desk.move(0, 0), 0);
        checks.dueStatement("by 0", desk, 0, 0, 0, 0, 0, 0);
        checks.due("isTold(0)", desk.isTold(0), false);
        checks.due("move(0, 1)", desk.move(0, 1), 1);
        checks.dueStatement("by 1", desk, 0, 0, 0, 1, 1, 1);
        checks.due("move(0, -1)", desk.move(0, -1), 1);
        checks.dueStatement("by -1", desk, 0, 0, 1, 1, 0, 2);
        checks.due("move(0, 0)", desk.move(0, 0), 0);
        checks.dueStatement("by 0 once more", desk, 0, 0, 1, 1, 0, 2);
        checks.due("move(199, 0)", desk.move(199, 0), 0);
    }

    private void thereIsNoSuchPosition() {
        checks.sentence("-1, refused, if there is no such position");
        DayDesk desk = new DayDesk();
        for (int position : NO_POSITIONS) {
            checks.due("move(" + position + ", 1)", desk.move(position, 1), -1);
            checks.due("move(" + position + ", 0)", desk.move(position, 0), -1);
            checks.due("move(" + position + ", -1)", desk.move(position, -1), -1);
        }
        checks.due("move(0, 1)", desk.move(0, 1), 1);
        checks.due("move(199, 1)", desk.move(199, 1), 1);
    }

    private void theLargestMoves() {
        checks.sentence("v is not -10 ^ 16 .. 10 ^ 16");
        dueFirstMove(MOST - 1, 1);
        dueFirstMove(MOST, 1);
        dueFirstMove(MOST + 1, -1);
        dueFirstMove(Long.MAX_VALUE, -1);
        dueFirstMove(-MOST + 1, 1);
        dueFirstMove(-MOST, 1);
        dueFirstMove(-MOST - 1, -1);
        dueFirstMove(Long.MIN_VALUE + 1, -1);
        dueFirstMove(Long.MIN_VALUE, -1);
        // Cut to an int these would be 0 or small.
        dueFirstMove(1L << 32, 1);
        dueFirstMove(1L << 62, -1);
        dueFirstMove(-(1L << 62), -1);
    }

    private void dueFirstMove(long v, int want) {
        DayDesk desk = new DayDesk();
        checks.due("move(3, " + v + ")", desk.move(3, v), want);
        long moved = want == 1 ? v : 0;
        checks.dueStatement("move(3, " + v + ")", desk, 3, 0, Math.max(-moved, 0), Math.max(moved, 0), moved, want == 1 ? 1 : 0);
    }

    // No 512 moves of 10 ^ 16 come to 9 * 10 ^ 18, and what later calls answer is free: what can be
    // held to is that nothing nearer is refused, in runs of 512 calls each.

    private void asFarUpAs512CallsGo() {
        checks.sentence(LIMITS);
        DayDesk desk = new DayDesk();
        moveOften(desk, MOST, 507);
        checks.dueStatement("up", desk, 9, 0, 0, 507 * MOST, 507 * MOST, 507);
    }

    private void asFarDownAs512CallsGo() {
        checks.sentence(LIMITS);
        DayDesk desk = new DayDesk();
        moveOften(desk, -MOST, 507);
        checks.dueStatement("down", desk, 9, 0, 507 * MOST, 0, -507 * MOST, 507);
    }

    private void asFarAs512CallsGoOverDays() {
        checks.sentence(LIMITS);
        long[] steps = {MOST, -MOST};
        for (long v : steps) {
            DayDesk desk = new DayDesk();
            moveOften(desk, v, 253);
            desk.skip(1000);
            moveOften(desk, v, 253);
            long went = v < 0 ? 253 * MOST : 0;
            long came = v > 0 ? 253 * MOST : 0;
            checks.dueStatement("on the second day", desk, 9, 253 * v, went, came, 506 * v, 253);
        }
    }

    private void asFarToAndFroAs512CallsGo() {
        checks.sentence(LIMITS);
        DayDesk desk = new DayDesk();
        moveOften(desk, MOST, 253);
        moveOften(desk, -MOST, 254);
        checks.dueStatement("to and fro", desk, 9, 0, 254 * MOST, 253 * MOST, -MOST, 507);
    }

    private void moveOften(DayDesk desk, long v, int times) {
        for (int i = 0; i < times; i++) {
            checks.due("move(9, " + v + ")", desk.move(9, v), 1);
        }
    }

    private void rowOfNoSuchPosition() {
        checks.sentence("0 for no such position or what");
        DayDesk desk = new DayDesk();
        desk.move(0, 4);
        desk.move(199, -4);
        for (int position : NO_POSITIONS) {
            for (int what = -1; what <= 5; what++) {
                checks.due("row(" + position + ", " + what + ")", desk.row(position, what), 0);
            }
        }
        checks.dueStatement("the first", desk, 0, 0, 0, 4, 4, 1);
        checks.dueStatement("the last", desk, 199, 0, 4, 0, -4, 1);
    }

    private void rowOfNoSuchWhat() {
        checks.sentence("0 for no such position or what");
        DayDesk desk = new DayDesk();
        desk.move(0, 9);
        desk.skip(1000);
        desk.move(0, -2);
        desk.move(0, 1);
        int[] none = {Integer.MIN_VALUE, -2, -1, 5, 6, Integer.MAX_VALUE};
        for (int what : none) {
            checks.due("row(0, " + what + ")", desk.row(0, what), 0);
        }
        checks.due("row(0, 0)", desk.row(0, 0), 9);
        checks.due("row(0, 4)", desk.row(0, 4), 2);
    }

    private void itsOpeningIsNot0() {
        checks.sentence("its opening is not 0");
        long[] openings = {1, -1, MOST, -MOST, 1L << 32};
        for (long v : openings) {
            DayDesk desk = new DayDesk();
            desk.move(5, v);
            desk.skip(1000);
            checks.due("opening " + v, desk.isTold(5), true);
            desk.move(5, -v);
            checks.due("opening " + v + ", now 0", desk.isTold(5), true);
            desk.skip(1000);
            checks.due("opening 0", desk.isTold(5), false);
        }
    }

    private void itMovedToday() {
        checks.sentence("or it moved today");
        DayDesk desk = Checks.deskAt(998);
        checks.due("not yet", desk.isTold(5), false);
        checks.due("moved by 0", desk.move(5, 0), 0);
        checks.due("not yet", desk.isTold(5), false);
        checks.due("refused", desk.move(5, MOST + 1), -1);
        checks.due("not yet", desk.isTold(5), false);
        desk.move(5, 6);
        checks.due("moved", desk.isTold(5), true);
        desk.move(5, -6);
        checks.due("moved back to 0", desk.isTold(5), true);
        desk.pass();
        checks.due("at the day's last tick", desk.isTold(5), true);
        desk.pass();
        checks.due("when the next day begins", desk.isTold(5), false);
        desk.move(5, -1);
        checks.due("moved at the day's first tick", desk.isTold(5), true);
        checks.due("its neighbours", desk.isTold(4) || desk.isTold(6), false);
    }
}
