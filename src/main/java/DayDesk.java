/** The day of a house of settlement, and the statements of its positions. */
public final class DayDesk {
    private static final int TICKS_OF_A_DAY = 1000;
    private static final int MOST_TICKS_AT_ONCE = 100000;

    private static final int EARLY = 0;
    private static final int OPEN = 1;
    private static final int LATE = 2;
    private static final int FINAL = 3;
    private static final int SHUT = 4;

    private static final int OPEN_BEGINS = 100;
    private static final int LATE_BEGINS = 700;
    private static final int FINAL_BEGINS = 800;
    private static final int SHUT_BEGINS = 900;

    private static final int FIRST_RESOLVING = 150;
    private static final int LAST_RESOLVING = 900;
    private static final int BETWEEN_RESOLVINGS = 50;
    private static final int RESOLVINGS_OF_A_DAY = 16;
    private static final int SENDING_BACK = 900;

    private static final int GRIDLOCK_IS_RESOLVED = 1;
    private static final int ALL_IS_SENT_BACK = 2;
    private static final int A_DAY_BEGINS = 4;

    private static final int ISS = 3;
    private static final int RED = 4;
    private static final int PAY = 5;
    private static final int CNF = 6;
    private static final int CAN = 7;
    private static final int PRI = 8;
    private static final int RES = 13;
    private static final int LAST_KIND = 14;
    private static final int TOP_PRIORITY_WHEN_LATE = 4;

    private static final int POSITIONS = 200;
    private static final long MOST_MOVED_AT_ONCE = 10_000_000_000_000_000L;
    private static final long MOST_HELD = 9_000_000_000_000_000_000L;

    private static final long HIGHEST_UNIT = 1_000_000_000_000_000_000L;
    // Five numbers of at most 19 digits and a sign each, and four blanks.
    private static final int LONGEST_LINE = 104;

    private int day;
    private int tick;

    private final long[] opening;
    private final long[] went;
    private final long[] came;
    private final long[] now;
    private final long[] moved;

    private final char[] line;
    private int lineLength;

    public DayDesk() {
        day = 0;
        tick = 0;
        opening = new long[POSITIONS];
        went = new long[POSITIONS];
        came = new long[POSITIONS];
        now = new long[POSITIONS];
        moved = new long[POSITIONS];
        line = new char[LONGEST_LINE];
        lineLength = 0;
    }

    public int pass() {
        advance(1);
        int events = 0;
        if (isResolving(tick)) {
            events += GRIDLOCK_IS_RESOLVED;
        }
        if (tick == SENDING_BACK) {
            events += ALL_IS_SENT_BACK;
        }
        if (tick == 0) {
            events += A_DAY_BEGINS;
        }
        return events;
    }

    public int skip(int n) {
        if (n < 1 || n > MOST_TICKS_AT_ONCE) {
            return -1;
        }
        int before = resolvingsUntil(tick);
        int daysBegun = advance(n);
        return daysBegun * RESOLVINGS_OF_A_DAY + resolvingsUntil(tick) - before;
    }

    public boolean may(int kind, int priority, boolean money) {
        if (kind < 0 || kind > LAST_KIND) {
            return false;
        }
        switch (phaseNow()) {
            case EARLY:
                return !isClosedWhenEarly(kind);
            case LATE:
                return kind != PAY || priority <= TOP_PRIORITY_WHEN_LATE;
            case FINAL:
                return kind != PAY || money;
            case SHUT:
                return !isClosedWhenShut(kind);
            default:
                return true;
        }
    }

    public int look(int what) {
        switch (what) {
            case 0:
                return day;
            case 1:
                return tick;
            case 2:
                return phaseNow();
            case 3:
                return nextResolving() - tick;
            case 4:
                return nextPhaseBegins() - tick;
            default:
                return -1;
        }
    }

    public int move(int position, long v) {
        if (!isPosition(position) || !isWithin(v, MOST_MOVED_AT_ONCE)) {
            return -1;
        }
        if (v == 0) {
            return 0;
        }
        // No sum here can wrap: 9 * 10 ^ 18 and one move of 10 ^ 16 together stay below 2 ^ 63.
        long newNow = now[position] + v;
        long newWent = went[position] + (v < 0 ? -v : 0);
        long newCame = came[position] + (v > 0 ? v : 0);
        if (!isWithin(newNow, MOST_HELD) || !isWithin(newWent, MOST_HELD) || !isWithin(newCame, MOST_HELD)) {
            return -1;
        }
        now[position] = newNow;
        went[position] = newWent;
        came[position] = newCame;
        moved[position]++;
        return 1;
    }

    public long row(int position, int what) {
        if (!isPosition(position)) {
            return 0;
        }
        switch (what) {
            case 0:
                return opening[position];
            case 1:
                return went[position];
            case 2:
                return came[position];
            case 3:
                return now[position];
            case 4:
                return moved[position];
            default:
                return 0;
        }
    }

    public boolean isTold(int position) {
        return isPosition(position) && (opening[position] != 0 || moved[position] != 0);
    }

    public int write(int position) {
        if (!isPosition(position)) {
            return -1;
        }
        lineLength = 0;
        addNumber(opening[position]);
        addCharacter(' ');
        addNumber(went[position]);
        addCharacter(' ');
        addNumber(came[position]);
        addCharacter(' ');
        addNumber(now[position]);
        addCharacter(' ');
        addNumber(moved[position]);
        return lineLength;
    }

    public int at(int i) {
        return i >= 0 && i < lineLength ? line[i] : -1;
    }

    /** Lets ticks pass and answers how many days began meanwhile. */
    private int advance(int ticks) {
        int end = tick + ticks;
        int daysBegun = end / TICKS_OF_A_DAY;
        tick = end % TICKS_OF_A_DAY;
        day += daysBegun;
        // Nothing moves between days that begin in one call, so opening them once is enough.
        if (daysBegun > 0) {
            openStatements();
        }
        return daysBegun;
    }

    private void openStatements() {
        for (int position = 0; position < POSITIONS; position++) {
            opening[position] = now[position];
            went[position] = 0;
            came[position] = 0;
            moved[position] = 0;
        }
    }

    private static boolean isResolving(int tickOfDay) {
        return tickOfDay >= FIRST_RESOLVING && tickOfDay <= LAST_RESOLVING
                && tickOfDay % BETWEEN_RESOLVINGS == 0;
    }

    /** How often gridlock has been resolved in a day when one of its ticks has come. */
    private static int resolvingsUntil(int tickOfDay) {
        if (tickOfDay < FIRST_RESOLVING) {
            return 0;
        }
        int last = Math.min(tickOfDay, LAST_RESOLVING);
        return (last - FIRST_RESOLVING) / BETWEEN_RESOLVINGS + 1;
    }

    /** Counted from the start of this day, so one of the next day lies beyond its last tick. */
    private int nextResolving() {
        if (tick >= LAST_RESOLVING) {
            return TICKS_OF_A_DAY + FIRST_RESOLVING;
        }
        return FIRST_RESOLVING + resolvingsUntil(tick) * BETWEEN_RESOLVINGS;
    }

    private int phaseNow() {
        if (tick < OPEN_BEGINS) {
            return EARLY;
        }
        if (tick < LATE_BEGINS) {
            return OPEN;
        }
        if (tick < FINAL_BEGINS) {
            return LATE;
        }
        return tick < SHUT_BEGINS ? FINAL : SHUT;
    }

    /** Counted from the start of this day, so the next day's first phase begins beyond its last tick. */
    private int nextPhaseBegins() {
        switch (phaseNow()) {
            case EARLY:
                return OPEN_BEGINS;
            case OPEN:
                return LATE_BEGINS;
            case LATE:
                return FINAL_BEGINS;
            case FINAL:
                return SHUT_BEGINS;
            default:
                return TICKS_OF_A_DAY;
        }
    }

    private static boolean isClosedWhenEarly(int kind) {
        return kind == ISS || kind == RED || kind == PAY || kind == CNF || kind == RES;
    }

    private static boolean isClosedWhenShut(int kind) {
        return isClosedWhenEarly(kind) || kind == CAN || kind == PRI;
    }

    private static boolean isPosition(int position) {
        return position >= 0 && position < POSITIONS;
    }

    private static boolean isWithin(long v, long bound) {
        return v >= -bound && v <= bound;
    }

    private void addNumber(long v) {
        if (v < 0) {
            addCharacter('-');
        }
        long size = v < 0 ? -v : v;
        for (long unit = HIGHEST_UNIT; unit > 0; unit /= 10) {
            // The last digit is written even for 0.
            if (size >= unit || unit == 1) {
                addCharacter((char) ('0' + size / unit % 10));
            }
        }
    }

    private void addCharacter(char c) {
        if (lineLength >= 0 && lineLength < line.length) {
            line[lineLength] = c;
            lineLength++;
        }
    }
}
