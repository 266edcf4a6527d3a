/** Each call changes what its promise says, and nothing else: not the time, a statement or the row written last. */
public final class ChangesTest {
    private static final int ASKINGS = 18;

    private final Checks checks = new Checks();

    public static void main(String[] args) {
        ChangesTest test = new ChangesTest();
        test.whatOnlyAsksChangesNothing();
        test.aTickThatBeginsNoDayChangesTheTimeAlone();
        test.writingChangesTheRowAlone();
        test.objectsSideBySide();
        test.checks.end();
    }

    private static DayDesk usedDesk() {
        DayDesk desk = Checks.deskAt(1750);
        desk.move(0, 31);
        desk.move(199, -8);
        desk.skip(1000);
        desk.move(199, 2);
        desk.move(7, -5);
        desk.write(199);
        return desk;
    }

    private void whatOnlyAsksChangesNothing() {
        String due = Checks.shown(usedDesk());
        for (int asking = 0; asking < ASKINGS; asking++) {
            DayDesk desk = usedDesk();
            ask(desk, asking);
            checks.due("after asking " + asking + ": shown", Checks.shown(desk), due);
        }
    }

    private static void ask(DayDesk desk, int asking) {
        switch (asking) {
            case 0: desk.may(5, 5, false); break;
            case 1: desk.may(5, 4, true); break;
            case 2: desk.may(0, 0, false); break;
            case 3: desk.may(15, 0, true); break;
            case 4: case 5: case 6: case 7: case 8: case 9: desk.look(asking - 4); break;
            case 10: desk.row(199, 3); break;
            case 11: desk.row(199, 5); break;
            case 12: desk.row(200, 0); break;
            case 13: desk.isTold(199); break;
            case 14: desk.isTold(1); break;
            case 15: desk.isTold(200); break;
            case 16: desk.at(3); break;
            default: desk.at(-1); break;
        }
    }

    private void aTickThatBeginsNoDayChangesTheTimeAlone() {
        String due = withoutTime(Checks.shown(usedDesk()));
        DayDesk passed = usedDesk();
        passed.pass();
        checks.due("after pass(): shown", withoutTime(Checks.shown(passed)), due);
        DayDesk skipped = usedDesk();
        skipped.skip(249);
        checks.due("after skip(249): shown", withoutTime(Checks.shown(skipped)), due);
    }

    private static String withoutTime(String shown) {
        return shown.substring(shown.indexOf('|'));
    }

    private void writingChangesTheRowAlone() {
        DayDesk desk = usedDesk();
        desk.write(0);
        desk.write(199);
        checks.due("after the same row: shown", Checks.shown(desk), Checks.shown(usedDesk()));
        desk.write(0);
        checks.due("the row of 0", Checks.lastRow(desk), "31 0 0 31 0");
        checks.dueStatement("written", desk, 0, 31, 0, 0, 31, 0);
        checks.dueStatement("not written", desk, 199, -8, 0, 2, -6, 1);
        checks.dueTime("written", desk, 2, 750);
    }

    /** All memory is the object's own, the row written last too. */
    private void objectsSideBySide() {
        DayDesk one = new DayDesk();
        DayDesk other = new DayDesk();
        one.move(0, 12);
        other.move(0, -345);
        one.write(0);
        other.skip(1150);
        other.write(0);
        one.pass();
        checks.due("one's row", Checks.lastRow(one), "0 0 12 12 1");
        checks.due("the other's row", Checks.lastRow(other), "-345 0 0 -345 0");
        checks.dueStatement("one", one, 0, 0, 0, 12, 12, 1);
        checks.dueStatement("the other", other, 0, -345, 0, 0, -345, 0);
        checks.dueTime("one", one, 0, 1);
        checks.dueTime("the other", other, 1, 150);
    }
}
