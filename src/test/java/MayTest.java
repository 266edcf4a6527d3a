/** Promise 4: what may come in which phase. */
public final class MayTest {
    // Kinds 0 .. 14 in each phase; 'p' and 'm' stand where a PAY's priority or money decides.
    private static final String[] GATES = {
        "111000011111101",
        "111111111111111",
        "11111p111111111",
        "11111m111111111",
        "111000000111101",
    };
    private static final int[][] TICKS = {{0, 1, 99}, {100, 101, 699}, {700, 701, 799}, {800, 801, 899}, {900, 901, 999}};
    private static final int[] PRIORITIES = {Integer.MIN_VALUE, -1, 0, 1, 3, 4, 5, 6, 9, Integer.MAX_VALUE};
    private static final int[] NO_KINDS = {-1, 15, 16, 37, -11, Integer.MAX_VALUE, Integer.MIN_VALUE};

    public static void main(String[] args) {
        Checks checks = new Checks();
        for (int phase = 0; phase < TICKS.length; phase++) {
            for (int tick : TICKS[phase]) {
                atTick(checks, tick, GATES[phase]);
                atTick(checks, tick + 3000, GATES[phase]);
            }
        }
        checks.end();
    }

    private static void atTick(Checks checks, int tick, String gates) {
        for (int priority : PRIORITIES) {
            DayDesk desk = Checks.deskAt(tick);
            for (int kind = 0; kind < gates.length(); kind++) {
                ask(checks, desk, kind, priority, true, opens(gates.charAt(kind), priority, true));
                ask(checks, desk, kind, priority, false, opens(gates.charAt(kind), priority, false));
            }
            for (int kind : NO_KINDS) {
                ask(checks, desk, kind, priority, true, false);
                ask(checks, desk, kind, priority, false, false);
            }
        }
    }

    private static boolean opens(char gate, int priority, boolean money) {
        switch (gate) {
            case 'p':
                return priority < 5;
            case 'm':
                return money;
            default:
                return gate == '1';
        }
    }

    private static void ask(Checks checks, DayDesk desk, int kind, int priority, boolean money, boolean want) {
        String call = "tick " + desk.look(1) + ": may(" + kind + ", " + priority + ", " + money + ")";
        checks.due(call, desk.may(kind, priority, money), want);
    }
}
