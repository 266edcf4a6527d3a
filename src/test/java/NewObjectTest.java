/** Promise 1: a new object stands at the first tick of day 0, and all is 0. */
public final class NewObjectTest {
    public static void main(String[] args) {
        Checks checks = new Checks();
        DayDesk desk = new DayDesk();
        checks.dueTime("new", desk, 0, 0);
        checks.due("look(2)", desk.look(2), 0);
        checks.due("at(0)", desk.at(0), -1);
        for (int position = 0; position < 200; position++) {
            DayDesk fresh = new DayDesk();
            checks.dueStatement("new", fresh, position, 0, 0, 0, 0, 0);
            checks.due("isTold", fresh.isTold(position), false);
        }
        objectsShareNothing(checks);
        checks.end();
    }

    private static void objectsShareNothing(Checks checks) {
        DayDesk one = new DayDesk();
        one.move(3, 7);
        one.write(3);
        one.skip(1234);
        DayDesk other = new DayDesk();
        checks.dueTime("another", other, 0, 0);
        checks.dueStatement("another", other, 3, 0, 0, 0, 0, 0);
        checks.due("another: at(0)", other.at(0), -1);
    }
}
