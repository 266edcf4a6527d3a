/** Each sentence of promises 1, 2, 3 and 5 that names an edge, on both sides of it. */
public final class EdgesOfTimeTest {
    private final Checks checks = new Checks();

    public static void main(String[] args) {
        EdgesOfTimeTest test = new EdgesOfTimeTest();
        test.aNewObject();
        test.gridlockIsResolved();
        test.allIsSentBack();
        test.aDayBegins();
        test.howManyTicksMayBeSkipped();
        test.skipCountsTheTickItEndsAtNotTheOneItStartsAt();
        test.skipOverOneDaysBeginning();
        test.skipOverSeveralDaysBeginnings();
        test.theLongestSkips();
        test.thereIsNoOtherWhat();
        test.tillGridlockIsResolved();
        test.tillTheNextPhase();
        test.whatIsFarPassesJustThen();
        test.checks.end();
    }

    private void aNewObject() {
        checks.sentence("The first tick of day 0");
        DayDesk desk = new DayDesk();
        checks.dueTime("new", desk, 0, 0);
        desk.pass();
        checks.dueTime("a tick later", desk, 0, 1);
    }

    private void gridlockIsResolved() {
        checks.sentence("1 gridlock is resolved (ticks 150, 200, 250, .., 900)");
        for (int tick = 150; tick <= 850; tick += 50) {
            duePass(tick - 1, 0);
            duePass(tick, 1);
            duePass(tick + 1, 0);
        }
        int[] notYetOrNoMore = {50, 100, 950};
        for (int tick : notYetOrNoMore) {
            duePass(tick, 0);
            duePass(1000 + tick, 0);
        }
        duePass(1150, 1);
        duePass(1850, 1);
    }

    private void allIsSentBack() {
        checks.sentence("2 all is sent back (900)");
        duePass(899, 0);
        duePass(900, 3);
        duePass(901, 0);
        duePass(1899, 0);
        duePass(1900, 3);
        duePass(1901, 0);
    }

    private void aDayBegins() {
        checks.sentence("4 a day begins (0)");
        duePass(1, 0);
        duePass(999, 0);
        duePass(1000, 4);
        duePass(1001, 0);
        duePass(99999, 0);
        duePass(100000, 4);
    }

    private void duePass(int time, int events) {
        checks.due("pass() to " + time, Checks.deskAt(time - 1).pass(), events);
    }

    private void howManyTicksMayBeSkipped() {
        checks.sentence("-1, refused, if n is not 1 .. 100000");
        dueSkip(0, Integer.MIN_VALUE, -1);
        dueSkip(0, -100000, -1);
        dueSkip(0, -1, -1);
        dueSkip(0, 0, -1);
        dueSkip(0, 1, 0);
        dueSkip(0, 2, 0);
        dueSkip(0, 99999, 1600);
        dueSkip(0, 100000, 1600);
        dueSkip(0, 100001, -1);
        dueSkip(0, Integer.MAX_VALUE, -1);
        dueSkip(999, 0, -1);
        dueSkip(999, 1, 0);
        dueSkip(999, 100000, 1600);
        dueSkip(999, 100001, -1);
        dueSkip(999, Integer.MAX_VALUE, -1);
    }

    private void skipCountsTheTickItEndsAtNotTheOneItStartsAt() {
        checks.sentence("how many times gridlock would be resolved meanwhile");
        dueSkip(0, 149, 0);
        dueSkip(0, 150, 1);
        dueSkip(149, 1, 1);
        dueSkip(150, 1, 0);
        dueSkip(150, 49, 0);
        dueSkip(150, 50, 1);
        dueSkip(149, 51, 2);
        dueSkip(850, 49, 0);
        dueSkip(850, 50, 1);
        dueSkip(850, 100, 1);
        dueSkip(899, 1, 1);
        dueSkip(900, 50, 0);
        dueSkip(900, 99, 0);
        dueSkip(0, 899, 15);
        dueSkip(0, 900, 16);
        dueSkip(0, 999, 16);
    }

    private void skipOverOneDaysBeginning() {
        checks.sentence("n ticks pass at once");
        dueSkip(999, 1, 0);
        dueSkip(900, 249, 0);
        dueSkip(900, 250, 1);
        dueSkip(899, 250, 1);
        dueSkip(899, 251, 2);
        dueSkip(999, 150, 0);
        dueSkip(999, 151, 1);
        dueSkip(0, 1000, 16);
        dueSkip(0, 1149, 16);
        dueSkip(0, 1150, 17);
        dueSkip(500, 499, 8);
        dueSkip(500, 500, 8);
        dueSkip(500, 1000, 16);
        dueSkip(150, 999, 15);
        dueSkip(150, 1000, 16);
    }

    private void skipOverSeveralDaysBeginnings() {
        checks.sentence("n ticks pass at once");
        dueSkip(0, 1999, 32);
        dueSkip(0, 2000, 32);
        dueSkip(0, 2149, 32);
        dueSkip(0, 2150, 33);
        dueSkip(999, 1001, 16);
        dueSkip(999, 2001, 32);
        dueSkip(500, 2499, 40);
        dueSkip(500, 2500, 40);
        dueSkip(900, 2249, 32);
        dueSkip(900, 2250, 33);
    }

    private void theLongestSkips() {
        checks.sentence("n ticks pass at once");
        dueSkip(1, 100000, 1600);
        dueSkip(149, 100000, 1600);
        dueSkip(149, 99999, 1600);
        dueSkip(150, 99999, 1599);
        dueSkip(151, 99999, 1600);
        dueSkip(900, 99999, 1599);
        dueSkip(901, 99999, 1600);
    }

    /** The answer, and the time that it is then: what it was if the call is refused. */
    private void dueSkip(int start, int n, int want) {
        DayDesk desk = Checks.deskAt(start);
        String call = "skip(" + n + ") from " + start;
        checks.due(call, desk.skip(n), want);
        int end = want == -1 ? start : start + n;
        checks.dueTime(call, desk, end / 1000, end % 1000);
    }

    private void thereIsNoOtherWhat() {
        checks.sentence("-1 for another what");
        int[] others = {Integer.MIN_VALUE, -2, -1, 5, 6, Integer.MAX_VALUE};
        for (int what : others) {
            checks.due("look(" + what + ")", new DayDesk().look(what), -1);
            checks.due("look(" + what + ")", Checks.deskAt(3950).look(what), -1);
        }
        int[] first = {0, 0, 0, 150, 100};
        int[] late = {3, 950, 4, 200, 50};
        for (int what = 0; what <= 4; what++) {
            checks.due("look(" + what + ")", new DayDesk().look(what), first[what]);
            checks.due("look(" + what + ")", Checks.deskAt(3950).look(what), late[what]);
        }
    }

    private void tillGridlockIsResolved() {
        checks.sentence("3 how many ticks pass till gridlock is resolved next (1 at least)");
        dueLook(3, 0, 150);
        dueLook(3, 99, 51);
        dueLook(3, 100, 50);
        dueLook(3, 149, 1);
        dueLook(3, 150, 50);
        dueLook(3, 151, 49);
        dueLook(3, 199, 1);
        dueLook(3, 200, 50);
        dueLook(3, 849, 1);
        dueLook(3, 850, 50);
        dueLook(3, 899, 1);
        checks.sentence("3 how many ticks pass till gridlock is resolved next, in the next day");
        dueLook(3, 900, 250);
        dueLook(3, 901, 249);
        dueLook(3, 949, 201);
        dueLook(3, 950, 200);
        dueLook(3, 999, 151);
    }

    private void tillTheNextPhase() {
        checks.sentence("4 till the next phase begins");
        dueLook(4, 0, 100);
        dueLook(4, 99, 1);
        dueLook(4, 100, 600);
        dueLook(4, 699, 1);
        dueLook(4, 700, 100);
        dueLook(4, 799, 1);
        dueLook(4, 800, 100);
        dueLook(4, 899, 1);
        checks.sentence("4 till the next phase begins, in the next day");
        dueLook(4, 900, 100);
        dueLook(4, 901, 99);
        dueLook(4, 999, 1);
    }

    private void dueLook(int what, int tick, int want) {
        for (int day = 0; day < 3; day++) {
            checks.due("day " + day + ", tick " + tick + ": look(" + what + ")",
                    Checks.deskAt(1000 * day + tick).look(what), want);
        }
    }

    /** What look tells is neither a tick too early nor one too late. */
    private void whatIsFarPassesJustThen() {
        checks.sentence("how many ticks pass");
        for (int time = 0; time < 1000; time++) {
            DayDesk desk = Checks.deskAt(time);
            int till = desk.look(3);
            if (till > 1) {
                checks.due("skip to the tick before, from " + time, desk.skip(till - 1), 0);
            }
            checks.due("pass() to the resolving after " + time, desk.pass() & 1, 1);
            DayDesk other = Checks.deskAt(time);
            int phase = other.look(2);
            till = other.look(4);
            if (till > 1) {
                other.skip(till - 1);
            }
            checks.due("the phase still, from " + time, other.look(2), phase);
            other.pass();
            checks.due("the phase after that of " + time, other.look(2), (phase + 1) % 5);
        }
    }
}
