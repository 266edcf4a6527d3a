/** Promise 9: the row that is written. */
public final class WriteTest {
    public static void main(String[] args) {
        Checks checks = new Checks();
        ordinaryRows(checks);
        everyNumberOfDigits(checks);
        theLongestRow(checks);
        refused(checks);
        writingChangesNoStatement(checks);
        checks.end();
    }

    private static void dueRow(Checks checks, DayDesk desk, int position, String want) {
        checks.due("write(" + position + ")", desk.write(position), want.length());
        checks.due("the row of " + position, Checks.lastRow(desk), want);
    }

    private static void ordinaryRows(Checks checks) {
        DayDesk desk = new DayDesk();
        desk.move(0, 5);
        desk.move(0, -12);
        desk.move(199, 1020);
        dueRow(checks, desk, 0, "0 12 5 -7 2");
        dueRow(checks, desk, 199, "0 0 1020 1020 1");
        dueRow(checks, desk, 1, "0 0 0 0 0");
        desk.skip(1000);
        dueRow(checks, desk, 0, "-7 0 0 -7 0");
        desk.move(0, 107);
        dueRow(checks, desk, 0, "-7 0 107 100 1");
        for (int i = 0; i < 11; i++) {
            desk.move(0, -10);
        }
        dueRow(checks, desk, 0, "-7 110 107 -10 12");
    }

    private static void everyNumberOfDigits(Checks checks) {
        for (long v = 1; v <= Checks.MOST_AT_ONCE; v *= 10) {
            oneMove(checks, v);
            oneMove(checks, v - 1);
            oneMove(checks, 9 * (v / 10) + 7);
        }
        oneMove(checks, 1234567890123456L);
        nineteenDigits(checks);
    }

    private static void nineteenDigits(Checks checks) {
        DayDesk desk = new DayDesk();
        for (int i = 0; i < 99; i++) {
            desk.move(6, Checks.MOST_AT_ONCE);
        }
        desk.move(6, Checks.MOST_AT_ONCE - 1);
        dueRow(checks, desk, 6, "0 0 999999999999999999 999999999999999999 100");
        desk.move(6, 1);
        dueRow(checks, desk, 6, "0 0 1000000000000000000 1000000000000000000 101");
    }

    private static void oneMove(Checks checks, long v) {
        if (v == 0) {
            return;
        }
        DayDesk up = new DayDesk();
        up.move(6, v);
        dueRow(checks, up, 6, "0 0 " + v + " " + v + " 1");
        DayDesk down = new DayDesk();
        down.move(6, -v);
        dueRow(checks, down, 6, "0 " + v + " 0 -" + v + " 1");
    }

    private static void theLongestRow(Checks checks) {
        DayDesk desk = new DayDesk();
        for (int i = 0; i < 105; i++) {
            desk.move(6, -Checks.MOST_AT_ONCE);
        }
        desk.skip(1000);
        for (int i = 0; i < 101; i++) {
            desk.move(6, -Checks.MOST_AT_ONCE);
        }
        for (int i = 0; i < 101; i++) {
            desk.move(6, Checks.MOST_AT_ONCE - 1);
        }
        String want = "-1050000000000000000 1010000000000000000 1009999999999999899 -1050000000000000101 202";
        checks.due("write(6)", desk.write(6), want.length());
        checks.due("the longest row", Checks.lastRow(desk), want);
    }

    private static void refused(Checks checks) {
        int[] wrong = {-1, 200, 201, Integer.MAX_VALUE, Integer.MIN_VALUE};
        DayDesk desk = new DayDesk();
        for (int position : wrong) {
            checks.due("write(" + position + ")", desk.write(position), -1);
            checks.due("at(0)", desk.at(0), -1);
        }
        desk.move(0, 44);
        desk.write(0);
        for (int position : wrong) {
            checks.due("write(" + position + ")", desk.write(position), -1);
            checks.due("the row stays", Checks.lastRow(desk), "0 0 44 44 1");
        }
    }

    private static void writingChangesNoStatement(Checks checks) {
        DayDesk desk = Checks.deskAt(321);
        desk.move(0, 44);
        desk.write(0);
        desk.write(1);
        checks.dueStatement("written", desk, 0, 0, 0, 44, 44, 1);
        checks.due("isTold(1)", desk.isTold(1), false);
        checks.dueTime("written", desk, 0, 321);
    }
}
