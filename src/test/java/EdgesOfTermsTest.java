/** Each sentence of the document's Terms that names an edge, on both sides of it. */
public final class EdgesOfTermsTest {
    private static final int REFUSALS = 16;
    private static final int[] NO_POSITIONS = {-1, 200, Integer.MIN_VALUE, Integer.MAX_VALUE};

    private final Checks checks = new Checks();

    public static void main(String[] args) {
        EdgesOfTermsTest test = new EdgesOfTermsTest();
        test.aDayHas1000Ticks();
        test.firstAndLastTicksOfPhases();
        test.phasesOfLaterDays();
        test.positions();
        test.allAre0AtFirst();
        test.whenADayBegins();
        test.whenADayBeginsEveryPositionOpens();
        test.whenADayBeginsTheWrittenRowStays();
        test.refusedOnANewObject();
        test.refusedOnAUsedObject();
        test.theLastOf512Calls();
        test.checks.end();
    }

    private void aDayHas1000Ticks() {
        checks.sentence("A DAY has 1000 TICKS, 0 .. 999");
        DayDesk desk = Checks.deskAt(998);
        desk.pass();
        checks.dueTime("the last tick", desk, 0, 999);
        desk.pass();
        checks.dueTime("the tick after it", desk, 1, 0);
        desk.skip(999);
        checks.dueTime("the last tick of day 1", desk, 1, 999);
        desk.skip(1);
        checks.dueTime("the tick after it", desk, 2, 0);
        desk.skip(1000);
        checks.dueTime("a whole day later", desk, 3, 0);
        desk.skip(1001);
        checks.dueTime("a whole day and a tick later", desk, 4, 1);
    }

    private void firstAndLastTicksOfPhases() {
        checks.sentence("0 EARLY, ticks 0 .. 99");
        duePhase(0, 0);
        duePhase(99, 0);
        checks.sentence("1 OPEN, 100 .. 699");
        duePhase(100, 1);
        duePhase(699, 1);
        checks.sentence("2 LATE, 700 .. 799");
        duePhase(700, 2);
        duePhase(799, 2);
        checks.sentence("3 FINAL, 800 .. 899");
        duePhase(800, 3);
        duePhase(899, 3);
        checks.sentence("4 SHUT, 900 .. 999");
        duePhase(900, 4);
        duePhase(999, 4);
    }

    private void phasesOfLaterDays() {
        checks.sentence("PHASES");
        int[] first = {0, 100, 700, 800, 900};
        int[] last = {99, 699, 799, 899, 999};
        for (int phase = 0; phase < 5; phase++) {
            duePhase(1000 + first[phase], phase);
            duePhase(1000 + last[phase], phase);
            duePhase(99000 + first[phase], phase);
            duePhase(99000 + last[phase], phase);
        }
        duePhase(1999, 4);
        duePhase(2000, 0);
    }

    private void duePhase(int time, int phase) {
        checks.due("time " + time + ": look(2)", Checks.deskAt(time).look(2), phase);
    }

    private void positions() {
        checks.sentence("POSITIONS are 0 .. 199");
        int[] edges = {0, 199};
        for (int position : edges) {
            DayDesk desk = new DayDesk();
            checks.due("move(" + position + ", 8)", desk.move(position, 8), 1);
            checks.due("row(" + position + ", 3)", desk.row(position, 3), 8);
            checks.due("isTold(" + position + ")", desk.isTold(position), true);
            checks.due("write(" + position + ")", desk.write(position), 9);
        }
        for (int position : NO_POSITIONS) {
            DayDesk desk = new DayDesk();
            checks.due("move(" + position + ", 8)", desk.move(position, 8), -1);
            checks.due("row(" + position + ", 3)", desk.row(position, 3), 0);
            checks.due("isTold(" + position + ")", desk.isTold(position), false);
            checks.due("write(" + position + ")", desk.write(position), -1);
            checks.dueStatement("no neighbour moved", desk, 0, 0, 0, 0, 0, 0);
            checks.dueStatement("no neighbour moved", desk, 199, 0, 0, 0, 0, 0);
        }
    }

    private void allAre0AtFirst() {
        checks.sentence("all are 0 at first");
        for (int position = 0; position < 200; position++) {
            DayDesk desk = new DayDesk();
            checks.dueStatement("at first", desk, position, 0, 0, 0, 0, 0);
            desk.move(position, 6);
            checks.dueStatement("after the first move", desk, position, 0, 0, 6, 6, 1);
        }
    }

    private void whenADayBegins() {
        checks.sentence("When a day begins the opening is what it is now, and all that went and came and moved is 0");
        DayDesk desk = Checks.deskAt(998);
        desk.move(0, 50);
        desk.move(0, -8);
        desk.pass();
        checks.dueStatement("by pass to 999", desk, 0, 0, 8, 50, 42, 2);
        desk.pass();
        checks.dueStatement("by pass to 0", desk, 0, 42, 0, 0, 42, 0);
        desk.move(0, -43);
        checks.dueStatement("moved at tick 0", desk, 0, 42, 43, 0, -1, 1);
        desk.pass();
        checks.dueStatement("by pass to 1", desk, 0, 42, 43, 0, -1, 1);
        desk.skip(998);
        checks.dueStatement("by skip to 999", desk, 0, 42, 43, 0, -1, 1);
        desk.skip(1);
        checks.dueStatement("by skip to 0", desk, 0, -1, 0, 0, -1, 0);
        desk.move(0, 5);
        desk.skip(2999);
        checks.dueStatement("by skip over two days' beginnings", desk, 0, 4, 0, 0, 4, 0);
        desk.move(0, 3);
        desk.skip(100000);
        checks.dueStatement("by the longest skip", desk, 0, 7, 0, 0, 7, 0);
    }

    private void whenADayBeginsEveryPositionOpens() {
        checks.sentence("When a day begins the opening is what it is now");
        for (int position = 0; position < 200; position++) {
            DayDesk desk = Checks.deskAt(999);
            desk.move(position, -5);
            desk.pass();
            checks.dueStatement("next day", desk, position, -5, 0, 0, -5, 0);
        }
    }

    private void whenADayBeginsTheWrittenRowStays() {
        checks.sentence("Character i of the row that was written last");
        DayDesk desk = Checks.deskAt(999);
        desk.move(0, 7);
        desk.write(0);
        desk.pass();
        checks.due("the row of the day before", Checks.lastRow(desk), "0 0 7 7 1");
    }

    private void refusedOnANewObject() {
        checks.sentence("A call that is refused changes nothing");
        String due = Checks.shown(new DayDesk());
        for (int refusal = 0; refusal < REFUSALS; refusal++) {
            DayDesk desk = new DayDesk();
            checks.due("refusal " + refusal, refuse(desk, refusal), -1);
            checks.due("refusal " + refusal + " left", Checks.shown(desk), due);
        }
    }

    private void refusedOnAUsedObject() {
        checks.sentence("A call that is refused changes nothing");
        String due = Checks.shown(usedDesk());
        for (int refusal = 0; refusal < REFUSALS; refusal++) {
            DayDesk desk = usedDesk();
            checks.due("refusal " + refusal, refuse(desk, refusal), -1);
            checks.due("refusal " + refusal + " left", Checks.shown(desk), due);
        }
    }

    private static DayDesk usedDesk() {
        DayDesk desk = Checks.deskAt(999);
        desk.move(0, 70);
        desk.move(199, -70);
        desk.pass();
        desk.move(0, -1);
        desk.move(7, 2);
        desk.move(199, 3);
        desk.write(199);
        desk.skip(998);
        return desk;
    }

    private static long refuse(DayDesk desk, int refusal) {
        switch (refusal) {
            case 0: return desk.skip(0);
            case 1: return desk.skip(-1);
            case 2: return desk.skip(100001);
            case 3: return desk.skip(Integer.MIN_VALUE);
            case 4: return desk.skip(Integer.MAX_VALUE);
            case 5: return desk.move(-1, 5);
            case 6: return desk.move(200, 5);
            case 7: return desk.move(-1, -5);
            case 8: return desk.move(200, -5);
            case 9: return desk.move(0, Checks.MOST_AT_ONCE + 1);
            case 10: return desk.move(199, -Checks.MOST_AT_ONCE - 1);
            case 11: return desk.move(7, Long.MIN_VALUE);
            case 12: return desk.move(7, Long.MAX_VALUE);
            case 13: return desk.write(-1);
            case 14: return desk.write(200);
            default: return desk.write(Integer.MAX_VALUE);
        }
    }

    private void theLastOf512Calls() {
        checks.sentence("An object is used for at most 512 calls");
        DayDesk mover = new DayDesk();
        for (int i = 0; i < 511; i++) {
            mover.move(0, -Checks.MOST_AT_ONCE);
        }
        checks.due("the 512th move", mover.move(0, -Checks.MOST_AT_ONCE), 1);
        DayDesk clock = new DayDesk();
        for (int i = 0; i < 511; i++) {
            clock.skip(100000);
        }
        checks.due("the 512th call, look(0)", clock.look(0), 51100);
        DayDesk writer = new DayDesk();
        for (int i = 0; i < 511; i++) {
            writer.write(i % 200);
        }
        checks.due("the 512th call, at(8)", writer.at(8), '0');
    }
}
