/** Each sentence on what may come when, on both sides of the phase, the kind, the priority and the money. */
public final class EdgesOfMayTest {
    private static final int ISS = 3;
    private static final int RED = 4;
    private static final int PAY = 5;
    private static final int CNF = 6;
    private static final int CAN = 7;
    private static final int PRI = 8;
    private static final int RES = 13;
    private static final int[] ALWAYS = {0, 1, 2, 9, 10, 11, 12, 14};

    private final Checks checks = new Checks();

    public static void main(String[] args) {
        EdgesOfMayTest test = new EdgesOfMayTest();
        test.early();
        test.shut();
        test.late();
        test.isFinal();
        test.allOthersMay();
        test.priorityAndMoneyMatterForPayAlone();
        test.priorityAndMoneyMatterInTheirPhaseAlone();
        test.noSuchKind();
        test.checks.end();
    }

    private void early() {
        checks.sentence("In EARLY no ISS, RED, PAY, CNF, RES may come");
        int[] closed = {ISS, RED, PAY, CNF, RES};
        for (int kind : closed) {
            due(0, kind, 0, true, false);
            due(99, kind, 0, true, false);
            due(100, kind, 0, true, true);
            due(1000, kind, 0, true, false);
            due(1099, kind, 0, true, false);
            due(1100, kind, 0, true, true);
        }
        int[] open = {CAN, PRI};
        for (int kind : open) {
            due(0, kind, 0, true, true);
            due(99, kind, 0, true, true);
        }
    }

    private void shut() {
        checks.sentence("in SHUT no ISS, RED, PAY, CNF, CAN, PRI, RES");
        int[] closed = {ISS, RED, PAY, CNF, CAN, PRI, RES};
        for (int kind : closed) {
            due(899, kind, 0, true, true);
            due(900, kind, 0, true, false);
            due(999, kind, 0, true, false);
            due(1899, kind, 0, true, true);
            due(1900, kind, 0, true, false);
            due(1999, kind, 0, true, false);
        }
        due(1000, CAN, 0, true, true);
        due(1000, PRI, 0, true, true);
    }

    private void late() {
        checks.sentence("in LATE no PAY with a priority above 4");
        int[] ticks = {700, 799, 1700, 1799};
        for (int tick : ticks) {
            due(tick, PAY, Integer.MIN_VALUE, false, true);
            due(tick, PAY, -1, false, true);
            due(tick, PAY, 0, false, true);
            due(tick, PAY, 4, false, true);
            due(tick, PAY, 4, true, true);
            due(tick, PAY, 5, false, false);
            due(tick, PAY, 5, true, false);
            due(tick, PAY, Integer.MAX_VALUE, true, false);
        }
        due(699, PAY, 5, false, true);
        due(699, PAY, Integer.MAX_VALUE, false, true);
        due(800, PAY, 5, true, true);
    }

    private void isFinal() {
        checks.sentence("in FINAL none but with legs in the money alone");
        int[] ticks = {800, 899, 1800, 1899};
        int[] priorities = {Integer.MIN_VALUE, 0, 4, 5, Integer.MAX_VALUE};
        for (int tick : ticks) {
            for (int priority : priorities) {
                due(tick, PAY, priority, true, true);
                due(tick, PAY, priority, false, false);
            }
        }
        due(799, PAY, 4, false, true);
        due(900, PAY, 4, true, false);
    }

    private void allOthersMay() {
        checks.sentence("All others may");
        int[] ticks = {0, 99, 100, 699, 700, 799, 800, 899, 900, 999};
        for (int tick : ticks) {
            for (int kind : ALWAYS) {
                due(tick, kind, 0, false, true);
            }
        }
        int[] open = {100, 699};
        for (int tick : open) {
            for (int kind = 0; kind <= 14; kind++) {
                due(tick, kind, 9, false, true);
            }
        }
    }

    private void priorityAndMoneyMatterForPayAlone() {
        checks.sentence("priority and whether all legs are in the money matter for PAY alone");
        int[] ticks = {700, 799, 800, 899};
        for (int tick : ticks) {
            for (int kind = 0; kind <= 14; kind++) {
                if (kind != PAY) {
                    due(tick, kind, 5, false, true);
                    due(tick, kind, Integer.MAX_VALUE, false, true);
                    due(tick, kind, 4, true, true);
                }
            }
        }
    }

    private void priorityAndMoneyMatterInTheirPhaseAlone() {
        checks.sentence("Whether a message of a kind may come now");
        int[] priorities = {Integer.MIN_VALUE, 4, 5, Integer.MAX_VALUE};
        for (int priority : priorities) {
            due(99, PAY, priority, true, false);
            due(100, PAY, priority, false, true);
            due(699, PAY, priority, false, true);
            due(900, PAY, priority, true, false);
            due(999, PAY, priority, true, false);
        }
    }

    private void noSuchKind() {
        checks.sentence("false for no such kind");
        int[] ticks = {0, 99, 100, 699, 700, 799, 800, 899, 900, 999};
        int[] none = {Integer.MIN_VALUE, -2, -1, 15, 16, Integer.MAX_VALUE};
        for (int tick : ticks) {
            due(tick, 0, 0, true, true);
            due(tick, 14, 0, true, true);
            for (int kind : none) {
                due(tick, kind, 0, true, false);
                due(tick, kind, 9, false, false);
            }
        }
    }

    private void due(int time, int kind, int priority, boolean money, boolean want) {
        String call = "time " + time + ": may(" + kind + ", " + priority + ", " + money + ")";
        checks.due(call, Checks.deskAt(time).may(kind, priority, money), want);
    }
}
