/** Counts and prints the calls whose answer is not the one that is due. */
final class Checks {
    static final long MOST_AT_ONCE = 10_000_000_000_000_000L;

    private int wrong = 0;
    private String sentence = "";

    /** The document's words that the checks from here on stand for; a wrong answer is printed with them. */
    void sentence(String words) {
        sentence = "\"" + words + "\": ";
    }

    void due(String call, long got, long want) {
        if (got != want) {
            wrong++;
            System.out.println(sentence + call + " answered " + got + ", due is " + want);
        }
    }

    void due(String call, boolean got, boolean want) {
        due(call, got ? 1 : 0, want ? 1 : 0);
    }

    void due(String call, String got, String want) {
        if (!got.equals(want)) {
            wrong++;
            System.out.println(sentence + call + " answered '" + got + "', due is '" + want + "'");
        }
    }

    void dueStatement(String when, DayDesk desk, int position, long... want) {
        for (int what = 0; what < 5; what++) {
            due(when + ": row(" + position + ", " + what + ")", desk.row(position, what), want[what]);
        }
    }

    void dueTime(String when, DayDesk desk, int day, int tick) {
        due(when + ": look(0)", desk.look(0), day);
        due(when + ": look(1)", desk.look(1), tick);
    }

    /** What an object shows of itself in 145 calls: time, statements of five positions, the row written last. */
    static String shown(DayDesk desk) {
        StringBuilder text = new StringBuilder();
        for (int what = 0; what < 5; what++) {
            text.append(desk.look(what)).append(' ');
        }
        text.append('|');
        int[] positions = {0, 1, 7, 198, 199};
        for (int position : positions) {
            text.append(position).append(desk.isTold(position) ? '+' : '-');
            for (int what = 0; what < 5; what++) {
                text.append(desk.row(position, what)).append(' ');
            }
        }
        for (int i = 0; i < 110; i++) {
            text.append(desk.at(i)).append(' ');
        }
        return text.toString();
    }

    static DayDesk deskAt(int tick) {
        DayDesk desk = new DayDesk();
        if (tick > 0) {
            desk.skip(tick);
        }
        return desk;
    }

    /** The row that was written last, by at alone. */
    static String lastRow(DayDesk desk) {
        StringBuilder text = new StringBuilder();
        int c = desk.at(0);
        for (int i = 1; i < 200 && c != -1; i++) {
            text.append((char) c);
            c = desk.at(i);
        }
        return text.toString();
    }

    void end() {
        System.out.println(wrong == 0 ? "all answers are as due" : wrong + " answers are not as due");
        if (wrong != 0) {
            System.exit(1);
        }
    }
}
