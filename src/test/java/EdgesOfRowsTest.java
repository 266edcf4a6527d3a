/** Each sentence of promises 9 and 10 that names an edge, on both sides of it. */
public final class EdgesOfRowsTest {
    private static final int[] NO_POSITIONS = {Integer.MIN_VALUE, -2, -1, 200, 201, Integer.MAX_VALUE};

    private final Checks checks = new Checks();

    public static void main(String[] args) {
        EdgesOfRowsTest test = new EdgesOfRowsTest();
        test.inDigits();
        test.digitsOfHowOftenItMoved();
        test.theSignOfOneBelow0();
        test.oneBlankBetweenEachTwo();
        test.theLongestRow();
        test.writeOfNoSuchPosition();
        test.noRowIsWrittenYet();
        test.noRowAfterARefusedWrite();
        test.firstAndLastCharacter();
        test.theRowThatWasWrittenLast();
        test.checks.end();
    }

    private void inDigits() {
        checks.sentence("in digits");
        dueRowAfter("0 0 0 0 0");
        dueRowAfter("0 0 1 1 1", 1);
        dueRowAfter("0 0 9 9 1", 9);
        dueRowAfter("0 0 10 10 1", 10);
        dueRowAfter("0 0 99 99 1", 99);
        dueRowAfter("0 0 100 100 1", 100);
        dueRowAfter("0 0 1002003 1002003 1", 1002003);
        dueRowAfter("0 0 2147483647 2147483647 1", 2147483647L);
        dueRowAfter("0 0 2147483648 2147483648 1", 2147483648L);
        dueRowAfter("0 0 4294967296 4294967296 1", 4294967296L);
        dueRowAfter("0 0 9999999999999999 9999999999999999 1", 9999999999999999L);
        dueRowAfter("0 0 10000000000000000 10000000000000000 1", 10000000000000000L);
        dueRowAfter("0 0 20000000000000000 20000000000000000 2", 10000000000000000L, 10000000000000000L);
    }

    private void digitsOfHowOftenItMoved() {
        checks.sentence("moved, in digits");
        dueRow(movedOften(9), 0, "0 0 9 9 9");
        dueRow(movedOften(10), 0, "0 0 10 10 10");
        dueRow(movedOften(99), 0, "0 0 99 99 99");
        dueRow(movedOften(100), 0, "0 0 100 100 100");
        dueRow(movedOften(480), 0, "0 0 480 480 480");
    }

    private static DayDesk movedOften(int times) {
        DayDesk desk = new DayDesk();
        for (int i = 0; i < times; i++) {
            desk.move(0, 1);
        }
        return desk;
    }

    private void theSignOfOneBelow0() {
        checks.sentence("- before one below 0");
        dueRowAfter("0 1 0 -1 1", -1);
        dueRowAfter("0 1 1 0 2", 1, -1);
        dueRowAfter("0 10 9 -1 2", 9, -10);
        dueRowAfter("0 10000000000000000 0 -10000000000000000 1", -10000000000000000L);
        DayDesk desk = new DayDesk();
        desk.move(0, -1);
        desk.skip(1000);
        dueRow(desk, 0, "-1 0 0 -1 0");
        desk.move(0, 1);
        dueRow(desk, 0, "-1 0 1 0 1");
        desk.move(0, 1);
        dueRow(desk, 0, "-1 0 2 1 2");
        desk.skip(1000);
        dueRow(desk, 0, "1 0 0 1 0");
        desk.move(0, -2);
        dueRow(desk, 0, "1 2 0 -1 1");
    }

    private void oneBlankBetweenEachTwo() {
        checks.sentence("with one blank between each two");
        DayDesk desk = new DayDesk();
        desk.move(0, 1234);
        desk.skip(1000);
        desk.move(0, -56);
        desk.move(0, 7);
        desk.write(0);
        String row = Checks.lastRow(desk);
        checks.due("the row", row, "1234 56 7 1185 2");
        int blanks = 0;
        for (int i = 0; i < row.length(); i++) {
            blanks += row.charAt(i) == 32 ? 1 : 0;
        }
        checks.due("blanks", blanks, 4);
    }

    private void theLongestRow() {
        checks.sentence("how many characters");
        DayDesk desk = new DayDesk();
        for (int i = 0; i < 102; i++) {
            desk.move(0, -Checks.MOST_AT_ONCE);
        }
        desk.skip(1000);
        for (int i = 0; i < 100; i++) {
            desk.move(0, -Checks.MOST_AT_ONCE);
            desk.move(0, Checks.MOST_AT_ONCE);
        }
        dueRow(desk, 0, "-1020000000000000000 1000000000000000000 1000000000000000000 -1020000000000000000 200");
    }

    private void writeOfNoSuchPosition() {
        checks.sentence("-1, refused, if there is no such position");
        DayDesk desk = new DayDesk();
        desk.move(0, 3);
        desk.move(199, -30);
        for (int position : NO_POSITIONS) {
            checks.due("write(" + position + ")", desk.write(position), -1);
        }
        checks.due("write(0)", desk.write(0), "0 0 3 3 1".length());
        checks.due("write(199)", desk.write(199), "0 30 0 -30 1".length());
    }

    private void noRowIsWrittenYet() {
        checks.sentence("-1 if there is none, before a row was written");
        DayDesk desk = new DayDesk();
        dueNone(desk, 0);
        desk.move(0, 3);
        desk.row(0, 3);
        desk.skip(1000);
        dueNone(desk, 0);
        desk.write(0);
        checks.due("at(0)", desk.at(0), '3');
    }

    private void noRowAfterARefusedWrite() {
        checks.sentence("-1 if there is none, after a write that was refused");
        for (int position : NO_POSITIONS) {
            DayDesk desk = new DayDesk();
            desk.write(position);
            dueNone(desk, 0);
            desk.move(0, 12);
            desk.write(0);
            desk.write(position);
            checks.due("the row of 0", Checks.lastRow(desk), "0 0 12 12 1");
            dueNone(desk, 11);
        }
    }

    private void firstAndLastCharacter() {
        checks.sentence("Character i (from 0) of the row");
        DayDesk desk = new DayDesk();
        desk.move(0, -7);
        desk.skip(1000);
        desk.move(0, 1);
        desk.move(0, 1);
        int length = desk.write(0);
        checks.due("write(0)", length, "-7 0 2 -5 2".length());
        checks.due("at(-1)", desk.at(-1), -1);
        checks.due("at(0)", desk.at(0), 45);
        checks.due("at(1)", desk.at(1), 55);
        checks.due("at(2)", desk.at(2), 32);
        checks.due("at(10)", desk.at(length - 1), 50);
        checks.due("at(11)", desk.at(length), -1);
        dueNone(desk, length);
    }

    private void theRowThatWasWrittenLast() {
        checks.sentence("of the row that was written last");
        DayDesk desk = new DayDesk();
        desk.move(0, 123456);
        dueRow(desk, 0, "0 0 123456 123456 1");
        dueRow(desk, 1, "0 0 0 0 0");
        dueNone(desk, 9);
        dueRow(desk, 0, "0 0 123456 123456 1");
        desk.move(0, -123456);
        checks.due("the row before the move", Checks.lastRow(desk), "0 0 123456 123456 1");
        dueRow(desk, 0, "0 123456 123456 0 2");
        desk.skip(1000);
        checks.due("the row before the day", Checks.lastRow(desk), "0 123456 123456 0 2");
        dueRow(desk, 0, "0 0 0 0 0");
    }

    private void dueNone(DayDesk desk, int length) {
        int[] none = {Integer.MIN_VALUE, -2, -1, length, length + 1, 103, 104, 105, Integer.MAX_VALUE};
        for (int i : none) {
            checks.due("at(" + i + ")", desk.at(i), -1);
        }
    }

    private void dueRowAfter(String want, long... moves) {
        DayDesk desk = new DayDesk();
        for (long v : moves) {
            desk.move(199, v);
        }
        dueRow(desk, 199, want);
    }

    private void dueRow(DayDesk desk, int position, String want) {
        checks.due("write(" + position + ")", desk.write(position), want.length());
        checks.due("the row of " + position, Checks.lastRow(desk), want);
    }
}
