/** Promise 3: skip lets ticks pass at once and counts the resolvings among them. */
public final class SkipTest {
    private static final int[] STARTS = {0, 1, 99, 100, 149, 150, 151, 199, 200, 500, 849, 850, 899, 900, 901, 950, 999};
    private static final int[] LENGTHS = {1, 2, 49, 50, 51, 99, 100, 150, 249, 250, 251, 750, 999, 1000, 1001, 1999, 2500};

    public static void main(String[] args) {
        Checks checks = new Checks();
        everyStartAndLength(checks);
        asManyPassesDoTheSame(checks);
        theLongest(checks);
        refused(checks);
        statementsOpenWhenADayBegins(checks);
        timeDoesNotEndIn512Calls(checks);
        checks.end();
    }

    private static void everyStartAndLength(Checks checks) {
        for (int start : STARTS) {
            for (int n : LENGTHS) {
                DayDesk desk = Checks.deskAt(start);
                checks.due("skip(" + n + ") from " + start, desk.skip(n), resolvings(start, n));
                checks.dueTime("skip(" + n + ") from " + start, desk, (start + n) / 1000, (start + n) % 1000);
            }
        }
    }

    private static int resolvings(int start, int n) {
        int count = 0;
        for (int time = start + 1; time <= start + n; time++) {
            int tick = time % 1000;
            if (tick >= 150 && tick <= 900 && tick % 50 == 0) {
                count++;
            }
        }
        return count;
    }

    private static void asManyPassesDoTheSame(Checks checks) {
        for (int start : STARTS) {
            DayDesk slow = Checks.deskAt(start);
            int resolved = 0;
            for (int i = 0; i < 500; i++) {
                resolved += slow.pass() & 1;
            }
            DayDesk fast = Checks.deskAt(start);
            checks.due("skip(500) from " + start, fast.skip(500), resolved);
            checks.dueTime("skip(500) from " + start, fast, slow.look(0), slow.look(1));
        }
    }

    private static void theLongest(Checks checks) {
        DayDesk desk = new DayDesk();
        checks.due("skip(100000)", desk.skip(100000), 1600);
        checks.dueTime("skip(100000)", desk, 100, 0);
        checks.due("skip(99999)", desk.skip(99999), 1600);
        checks.dueTime("skip(99999)", desk, 199, 999);
        checks.due("skip(100000) from 999", desk.skip(100000), 1600);
        checks.dueTime("skip(100000) from 999", desk, 299, 999);
    }

    private static void refused(Checks checks) {
        int[] wrong = {0, -1, -100000, 100001, 1000000, Integer.MAX_VALUE, Integer.MIN_VALUE};
        DayDesk desk = Checks.deskAt(120);
        desk.move(5, 4);
        for (int n : wrong) {
            checks.due("skip(" + n + ")", desk.skip(n), -1);
            checks.dueTime("skip(" + n + ")", desk, 0, 120);
            checks.dueStatement("skip(" + n + ")", desk, 5, 0, 0, 4, 4, 1);
        }
    }

    private static void statementsOpenWhenADayBegins(Checks checks) {
        DayDesk desk = Checks.deskAt(100);
        desk.move(8, 11);
        desk.move(8, -31);
        desk.skip(899);
        checks.dueStatement("same day", desk, 8, 0, 31, 11, -20, 2);
        desk.skip(1);
        checks.dueStatement("next day", desk, 8, -20, 0, 0, -20, 0);
        desk.move(8, 25);
        desk.skip(3500);
        checks.dueStatement("days later", desk, 8, 5, 0, 0, 5, 0);
    }

    private static void timeDoesNotEndIn512Calls(Checks checks) {
        DayDesk desk = new DayDesk();
        for (int i = 0; i < 510; i++) {
            checks.due("skip(100000)", desk.skip(100000), 1600);
        }
        checks.dueTime("51 million ticks", desk, 51000, 0);
    }
}
