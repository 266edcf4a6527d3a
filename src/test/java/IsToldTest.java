/** Promise 8: which positions are in statements. */
public final class IsToldTest {
    public static void main(String[] args) {
        Checks checks = new Checks();
        DayDesk desk = new DayDesk();
        desk.move(0, 1);
        desk.move(199, -1);
        desk.move(2, 6);
        desk.move(2, -6);
        desk.move(3, 0);
        desk.move(4, Long.MAX_VALUE);
        told(checks, "moved up", desk, 0, true);
        told(checks, "moved down", desk, 199, true);
        told(checks, "moved to and fro", desk, 2, true);
        told(checks, "moved by 0", desk, 3, false);
        told(checks, "refused", desk, 4, false);
        told(checks, "never moved", desk, 5, false);
        desk.skip(1000);
        told(checks, "opening above 0", desk, 0, true);
        told(checks, "opening below 0", desk, 199, true);
        told(checks, "opening 0", desk, 2, false);
        desk.move(0, -1);
        told(checks, "opening not 0, now 0", desk, 0, true);
        desk.skip(1000);
        told(checks, "opening 0 again", desk, 0, false);
        told(checks, "opening below 0 still", desk, 199, true);
        int[] wrong = {-1, 200, 201, Integer.MAX_VALUE, Integer.MIN_VALUE};
        for (int position : wrong) {
            told(checks, "no such position", desk, position, false);
        }
        checks.end();
    }

    private static void told(Checks checks, String when, DayDesk desk, int position, boolean want) {
        checks.due(when + ": isTold(" + position + ")", desk.isTold(position), want);
    }
}
