/** Promise 10: the characters of the row that was written last. */
public final class AtTest {
    public static void main(String[] args) {
        Checks checks = new Checks();
        DayDesk desk = new DayDesk();
        none(checks, desk, 0);
        desk.move(7, -30);
        none(checks, desk, 0);
        desk.write(7);
        dueCharacters(checks, desk, "0 30 0 -30 1");
        theRowStaysAsItWasWritten(checks, desk);
        aShorterRowHidesTheLonger(checks, desk);
        checks.end();
    }

    private static void dueCharacters(Checks checks, DayDesk desk, String want) {
        for (int i = 0; i < want.length(); i++) {
            checks.due("at(" + i + ")", desk.at(i), want.charAt(i));
        }
        none(checks, desk, want.length());
    }

    private static void none(Checks checks, DayDesk desk, int length) {
        int[] wrong = {length, length + 1, 103, 104, 105, 1000, -1, -2, Integer.MAX_VALUE, Integer.MIN_VALUE};
        for (int i : wrong) {
            checks.due("at(" + i + ")", desk.at(i), -1);
        }
    }

    private static void theRowStaysAsItWasWritten(Checks checks, DayDesk desk) {
        desk.move(7, 5);
        dueCharacters(checks, desk, "0 30 0 -30 1");
        desk.skip(1000);
        dueCharacters(checks, desk, "0 30 0 -30 1");
        desk.pass();
        desk.row(7, 0);
        desk.write(200);
        dueCharacters(checks, desk, "0 30 0 -30 1");
        desk.write(7);
        dueCharacters(checks, desk, "-25 0 0 -25 0");
    }

    private static void aShorterRowHidesTheLonger(Checks checks, DayDesk desk) {
        desk.write(8);
        dueCharacters(checks, desk, "0 0 0 0 0");
    }
}
