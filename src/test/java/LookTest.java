/** Promise 5: what the clock shows, at every tick of a day. */
public final class LookTest {
    private static final int[] WRONG = {-1, 5, 6, -5, Integer.MAX_VALUE, Integer.MIN_VALUE};

    public static void main(String[] args) {
        Checks checks = new Checks();
        // One object is used for 512 calls only, so each tick has its own.
        for (int time = 0; time < 3000; time++) {
            DayDesk desk = Checks.deskAt(time);
            checks.dueTime("time " + time, desk, time / 1000, time % 1000);
            checks.due("time " + time + ": look(2)", desk.look(2), phaseAt(time % 1000));
            checks.due("time " + time + ": look(3)", desk.look(3), ticksTillResolving(time));
            checks.due("time " + time + ": look(4)", desk.look(4), ticksTillNextPhase(time));
            for (int what : WRONG) {
                checks.due("look(" + what + ")", desk.look(what), -1);
            }
            checks.dueTime("looked at " + time, desk, time / 1000, time % 1000);
        }
        checks.end();
    }

    private static int phaseAt(int tick) {
        if (tick <= 99) return 0;
        if (tick <= 699) return 1;
        if (tick <= 799) return 2;
        if (tick <= 899) return 3;
        return 4;
    }

    private static boolean isResolving(int tick) {
        return tick == 900 || tick >= 150 && tick < 900 && tick % 50 == 0;
    }

    private static int ticksTillResolving(int time) {
        int n = 1;
        while (!isResolving((time + n) % 1000)) n++;
        return n;
    }

    private static int ticksTillNextPhase(int time) {
        int n = 1;
        while (phaseAt((time + n) % 1000) == phaseAt(time % 1000)) n++;
        return n;
    }
}
