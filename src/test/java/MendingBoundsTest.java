/** The bounds in what the document says of mending: right at each, and right past it. */
public final class MendingBoundsTest extends ShipTestBase {
    public static void main(String[] args) {
        asMuchAndTwiceTheDepth();
        asManyMetresAsTheTankHas();
        atBOrBuoyed();
        theCellIsLaid();
        theLastCellOfABuoyedLine();
        inWavesOfAtMost6AndNotBusy();
        aJointAtEachEnd();
        jointsInsideAndOutside();
        jointsAtTheShores();
        jointsAtAnEnd();
        repeatersRightAtItsEnds();
        aJointWithARepeaterBetween();
        typesAheadAndBehind();
        typesWithinWhatIsPut();
        typesOfASingleMetre();
        tensionAndWrecksDoNotMatter();
        whatIsCutOutIsWaste();
        faultsAtTheBoundsOfTheCell();
        thoseBehindAreShifted();
        cellsBehindAreShifted();
        aBuoyedLineStaysBuoyed();
        mendedAgainAndAgain();
        eachMetreAnew();
        end();
    }

    /** Three cells of type 1 (1005, 1000 and 800 metres), buoyed, on the calm day 2; cable in the tank 1. */
    private static CableShip buoyed() {
        CableShip ship = shipIn("csccccccccc");
        ship.make(1, 3005, 0);
        ship.make(1, 60000, 1);
        ship.lay(3, 0, 0);
        ship.pass(2);
        return ship;
    }

    private static CableShip buoyedAt(int depth) {
        CableShip ship = shipIn("csccccccccc");
        ship.sound(0, depth, 0);
        ship.sound(1, depth, 0);
        ship.make(3, 90000, 0);
        ship.lay(2, 0, 0);
        ship.pass(2);
        return ship;
    }

    private static void asMuchAndTwiceTheDepth() {
        promise = 15;
        int[][] depthsAndMetres = {{0, 1000}, {1, 1002}, {100, 1205}, {6000, 31000}};
        for (int[] each : depthsAndMetres) {
            CableShip ship = buoyedAt(each[0]);
            int before = ship.line(0);
            is("mend(0, 0) at " + each[0], ship.mend(0, 0), 0);
            is("the metres of the cell", ship.cell(0, 3), each[1]);
            is("the metres of the line", ship.line(0), before + 2 * each[0]);
            is("the next cell's begin", ship.cell(1, 2), each[1]);
        }
        CableShip twice = buoyed();
        twice.mend(1, 1);
        twice.pass(3);
        twice.mend(1, 1);
        is("the second time from what lay there then", twice.cell(1, 3), 1400);
    }

    private static void asManyMetresAsTheTankHas() {
        promise = 15;
        for (int metres = 1199; metres <= 1201; metres++) {
            CableShip ship = buoyed();
            ship.make(1, metres - 1, 2);
            ship.make(1, 1, 2);
            boolean isEnough = metres >= 1200;
            fails("mend with " + metres, isEnough ? null : STATE, () -> ship.mend(1, 2));
            is("what is left of " + metres, ship.tank(2, 0), isEnough ? metres - 1200 : metres);
            is("the waste", ship.line(5), isEnough ? 1200 : 200);
            is("canWork()", ship.canWork(), !isEnough);
        }
    }

    private static void atBOrBuoyed() {
        promise = 15;
        CableShip ship = shipIn("ccccccccc");
        ship.make(1, 60000, 0);
        ship.make(1, 60000, 0);
        for (int i = 0; i < 8; i++) {
            ship.lay(12, 0, 0);
            ship.pass(1);
        }
        ship.lay(3, 0, 0);
        fails("mend with 99 cells", STATE, () -> ship.mend(0, 0));
        ship.lay(1, 0, 0);
        is("mend with 100 cells", ship.mend(0, 0), 0);
        CableShip up = buoyed();
        up.takeUp(1);
        fails("mend when it is taken up", STATE, () -> up.mend(0, 1));
    }

    private static void theCellIsLaid() {
        promise = 15;
        CableShip ship = buoyed();
        fails("mend at the first cell that is not laid", STATE, () -> ship.mend(3, 1));
        fails("mend at the cell 99", STATE, () -> ship.mend(99, 1));
        fails("mend at the cell 100", ARGUMENT, () -> ship.mend(100, 1));
        CableShip empty = shipIn("csc");
        empty.make(1, 9000, 0);
        empty.pass(2);
        is("an empty line is buoyed", empty.line(6), 1);
        fails("mend at the cell 0 of nothing", STATE, () -> empty.mend(0, 0));
    }

    private static void theLastCellOfABuoyedLine() {
        promise = 15;
        CableShip ship = buoyed();
        fails("mend at the last cell", STATE, () -> ship.mend(2, 1));
        is("the line", ship.line(0), 2805);
        is("mend at the one ahead of it", ship.mend(1, 1), 0);
        CableShip one = shipIn("csc");
        one.make(1, 9000, 0);
        one.lay(1, 0, 0);
        one.pass(2);
        fails("mend at the only cell", STATE, () -> one.mend(0, 0));
        CableShip full = fullLine();
        is("mend at the last cell at B", full.mend(99, 0), 0);
    }

    private static void inWavesOfAtMost6AndNotBusy() {
        promise = 15;
        CableShip ship = shipIn("cs76ccc6");
        ship.make(1, 9000, 0);
        ship.lay(3, 0, 0);
        ship.pass(1);
        fails("in waves of 9", STATE, () -> ship.mend(0, 0));
        ship.pass(1);
        fails("in waves of 7", STATE, () -> ship.mend(0, 0));
        ship.pass(1);
        is("in waves of 6", ship.mend(0, 0), 0);
        fails("at once again", STATE, () -> ship.mend(0, 0));
        ship.pass(2);
        fails("two days later", STATE, () -> ship.mend(0, 0));
        ship.pass(1);
        is("three days later", ship.mend(0, 0), 0);
    }

    // ---- joints and repeaters

    private static void aJointAtEachEnd() {
        promise = 15;
        CableShip ship = buoyed();
        ship.mend(1, 1);
        rowIs("mended in a span", ship, 1005, J, 1200, J, 800);
        CableShip pieces = buoyed();
        pieces.make(1, 1, 2);
        pieces.make(1, 1198, 2);
        pieces.make(1, 1, 2);
        pieces.mend(1, 2);
        rowIs("mended with three pieces", pieces, 1005, J, 1, J, 1198, J, 1, J, 800);
        is("joints", pieces.line(3), 4);
        int[][] metres = {{1004, 1004}, {1005, 400000}, {1006, 300000}, {2203, 301197}, {2204, 200000}, {2205, 2005}};
        for (int[] each : metres) {
            is("metre(" + each[0] + ")", pieces.metre(each[0]), each[1]);
            is("metreAnew(" + each[0] + ")", pieces.metreAnew(each[0]), each[1]);
        }
    }

    /** Three cells with a joint so many metres behind the begin of the second one. */
    private static CableShip withJointAt(int behindBegin) {
        CableShip ship = shipIn("csccccccccc");
        ship.make(1, 9000, 0);
        ship.make(1, 1005 + behindBegin, 0);
        ship.make(1, 60000, 1);
        ship.lay(3, 0, 0);
        ship.pass(2);
        return ship;
    }

    private static void jointsInsideAndOutside() {
        promise = 15;
        int[] places = {-1, 0, 1, 500, 999, 1000, 1001};
        int[][] rows = {{1004, J, 1, J, 1200, J, 800}, {1005, J, 1200, J, 800}, {1005, J, 1200, J, 800},
            {1005, J, 1200, J, 800}, {1005, J, 1200, J, 800}, {1005, J, 1200, J, 800}, {1005, J, 1200, J, 1, J, 799}};
        for (int i = 0; i < places.length; i++) {
            CableShip ship = withJointAt(places[i]);
            ship.mend(1, 1);
            rowIs("with a joint " + places[i] + " metres behind the cell's begin", ship, rows[i]);
        }
        CableShip ahead = withJointAt(-1);
        ahead.mend(0, 1);
        rowIs("with a joint a metre ahead of the cell's end", ahead, J, 1205, J, 1800);
    }

    private static void jointsAtTheShores() {
        promise = 15;
        CableShip ship = buoyed();
        ship.mend(0, 1);
        rowIs("mended at A", ship, J, 1205, J, 1800);
        is("joints", ship.line(3), 2);
        is("all things", ship.line(2), 4);
        ship.pass(3);
        ship.mend(0, 1);
        rowIs("mended at A again", ship, J, 1405, J, 1800);
        CableShip full = fullLineOfType(1);
        full.mend(99, 0);
        rowIs("mended at B", full, 60000, J, 39005, J, 1200, J);
        passUntilCalm(full);
        full.mend(99, 0);
        rowIs("mended at B again", full, 60000, J, 39005, J, 1400, J);
        passUntilCalm(full);
        full.mend(98, 0);
        rowIs("mended next to B", full, 60000, J, 38005, J, 1200, J, 1400, J);
        passUntilCalm(full);
        full.mend(0, 0);
        rowIs("mended at A and B", full, J, 1205, J, 58995, J, 38005, J, 1200, J, 1400, J);
    }

    private static void jointsAtAnEnd() {
        promise = 15;
        CableShip ship = buoyed();
        ship.mend(0, 1);
        ship.pass(3);
        ship.mend(1, 1);
        rowIs("with a joint that was at the begin", ship, J, 1205, J, 1200, J, 800);
        CableShip other = buoyed();
        other.mend(1, 1);
        other.pass(3);
        other.mend(0, 1);
        rowIs("with a joint that was at the end", other, J, 1205, J, 1200, J, 800);
        other.pass(3);
        other.mend(1, 1);
        rowIs("with joints that were at both ends", other, J, 1205, J, 1400, J, 800);
    }

    /** Three cells with a repeater between each two. */
    private static CableShip withRepeaters() {
        CableShip ship = shipIn("cscccccccccc");
        ship.make(1, 3005, 0);
        ship.make(1, 60000, 1);
        ship.lay(1, 0, 0);
        ship.repeater();
        ship.lay(1, 0, 0);
        ship.repeater();
        ship.lay(1, 0, 0);
        ship.pass(2);
        return ship;
    }

    private static void repeatersRightAtItsEnds() {
        promise = 15;
        CableShip ship = withRepeaters();
        ship.mend(1, 1);
        rowIs("between two repeaters", ship, 1005, R, J, 1200, J, R, 800);
        ship.pass(3);
        ship.mend(1, 1);
        rowIs("between two repeaters again", ship, 1005, R, J, 1400, J, R, 800);
        is("repeaters", ship.line(4), 2);
        CableShip first = withRepeaters();
        first.mend(0, 1);
        rowIs("ahead of a repeater", first, J, 1205, J, R, 1000, R, 800);
        CableShip last = fullLine();
        last.repeater();
        last.mend(99, 0);
        rowIs("ahead of a repeater at B", last, 36005, R, 23995, J, 12005, R, 27000, J, 1200, J, R);
        is("repeaters", last.line(4), 3);
    }

    private static void aJointWithARepeaterBetween() {
        promise = 15;
        CableShip ship = withRepeaters();
        ship.mend(0, 1);
        ship.pass(3);
        ship.mend(1, 1);
        rowIs("with a joint and a repeater at the begin", ship, J, 1205, R, J, 1200, J, R, 800);
        ship.pass(3);
        ship.mend(0, 1);
        rowIs("with a repeater and a joint at the end", ship, J, 1405, J, R, 1200, J, R, 800);
    }

    // ---- types

    private static boolean mayFollow(int type, int other) {
        return type - other <= 1 && other - type <= 1;
    }

    /** Cells of these two types and of the second one again, buoyed. */
    private static CableShip buoyedOf(int first, int second) {
        CableShip ship = shipIn("cscccc");
        ship.make(second, 2000, 0);
        ship.make(first, 1005, 0);
        ship.lay(3, 0, 0);
        ship.pass(2);
        return ship;
    }

    private static void typesAheadAndBehind() {
        promise = 15;
        for (int first = 0; first < 4; first++) {
            for (int second = Math.max(0, first - 1); second <= Math.min(3, first + 1); second++) {
                for (int put = 0; put < 4; put++) {
                    CableShip begin = buoyedOf(first, second);
                    begin.make(put, 1205, 1);
                    fails("type " + put + " ahead of " + second, mayFollow(put, second) ? null : STATE,
                        () -> begin.mend(0, 1));
                    CableShip middle = buoyedOf(first, second);
                    middle.make(put, 1200, 1);
                    boolean may = mayFollow(first, put) && mayFollow(put, second);
                    fails("type " + put + " between " + first + " and " + second, may ? null : STATE,
                        () -> middle.mend(1, 1));
                }
            }
        }
        for (int type = 0; type < 4; type++) {
            for (int put = 0; put < 4; put++) {
                CableShip full = fullLineOfType(type);
                full.make(put, 1200, 1);
                fails("type " + put + " behind " + type + " at B", mayFollow(type, put) ? null : STATE,
                    () -> full.mend(99, 1));
            }
        }
    }

    private static void typesWithinWhatIsPut() {
        promise = 15;
        for (int top = 1; top < 4; top++) {
            for (int next = 1; next < 4; next++) {
                CableShip ship = buoyedOf(2, 2);
                ship.make(next, 600, 1);
                ship.make(top, 600, 1);
                fails("type " + next + " behind " + top, mayFollow(top, next) ? null : STATE, () -> ship.mend(1, 1));
                is("what is left", ship.tank(1, 0), mayFollow(top, next) ? 0 : 1200);
            }
        }
        CableShip repeated = shipIn("csccc");
        repeated.make(1, 1005, 0);
        repeated.make(2, 2000, 1);
        repeated.make(3, 1200, 2);
        repeated.lay(1, 0, 0);
        repeated.repeater();
        repeated.lay(2, 0, 1);
        repeated.pass(2);
        fails("type 3 with a repeater between it and type 1", STATE, () -> repeated.mend(1, 2));
    }

    private static void typesOfASingleMetre() {
        promise = 15;
        CableShip ahead = shipIn("csccc");
        ahead.make(2, 9000, 0);
        ahead.make(3, 1, 0);
        ahead.make(2, 1004, 0);
        ahead.make(1, 1200, 1);
        ahead.lay(3, 0, 0);
        ahead.pass(2);
        rowIs("with one metre ahead of the cell", ahead, 1004, J, 1, J, 1800);
        fails("type 1 behind one metre of type 3", STATE, () -> ahead.mend(1, 1));
        CableShip first = shipIn("csccc");
        first.make(2, 9000, 0);
        first.make(3, 1, 0);
        first.make(2, 1005, 0);
        first.make(1, 1205, 1);
        first.lay(3, 0, 0);
        first.pass(2);
        rowIs("with one metre in the cell", first, 1005, J, 1, J, 1799);
        fails("type 1 ahead of one metre of type 3", STATE, () -> first.mend(0, 1));
        CableShip inside = shipIn("csccc");
        inside.make(2, 9000, 0);
        inside.make(3, 1, 0);
        inside.make(2, 1005, 0);
        inside.make(1, 1200, 1);
        inside.lay(3, 0, 0);
        inside.pass(2);
        is("type 1 when that metre is cut out", inside.mend(1, 1), 0);
        CableShip behind = shipIn("csccc");
        behind.make(2, 9000, 0);
        behind.make(3, 1, 0);
        behind.make(2, 2005, 0);
        behind.make(1, 1200, 1);
        behind.lay(3, 0, 0);
        behind.pass(2);
        rowIs("with one metre behind the cell", behind, 2005, J, 1, J, 799);
        fails("type 1 ahead of one metre of type 3", STATE, () -> behind.mend(1, 1));
    }

    private static void tensionAndWrecksDoNotMatter() {
        promise = 15;
        CableShip ship = shipIn("csc");
        ship.sound(0, 509, 0);
        ship.make(1, 9000, 0);
        ship.make(0, 9000, 1);
        ship.lay(2, 0, 0);
        ship.wreck(0, true);
        ship.crossing(0, 1);
        ship.pass(2);
        is("the tension of type 0", ship.tension(0, 0), 61);
        is("type 0 is put there", ship.mend(0, 1), 0);
    }

    // ---- what is cut out, and what is behind

    private static void whatIsCutOutIsWaste() {
        promise = 28;
        CableShip ship = buoyed();
        is("the waste of a storm", ship.line(5), 200);
        ship.mend(0, 1);
        is("and of 1005 metres", ship.line(5), 1205);
        ship.pass(3);
        ship.mend(0, 1);
        is("and of the 1205 that were put there", ship.line(5), 2410);
        is("the line", ship.line(0), 1405 + 1800);
        is("all is kept", ship.isKept(), true);
    }

    private static void faultsAtTheBoundsOfTheCell() {
        promise = 15;
        int[] places = {1004, 1005, 2004, 2005};
        int[] due = {0, 1, 1, 0};
        for (int i = 0; i < 4; i++) {
            CableShip ship = buoyed();
            ship.fault(BREAK, places[i]);
            is("faults that are gone from " + places[i], ship.mend(1, 1), due[i]);
            is("faults that are left at " + places[i], ship.faults(), 1 - due[i]);
        }
        CableShip all = buoyed();
        all.fault(BREAK, 1005);
        all.fault(SHUNT, 1500);
        all.fault(SHUNT, 1500);
        all.fault(BREAK, 2004);
        is("four faults that are gone", all.mend(1, 1), 4);
        is("faults that are left", all.faults(), 0);
        CableShip some = buoyed();
        some.fault(SHUNT, 1004);
        some.fault(BREAK, 1005);
        some.fault(BREAK, 2005);
        some.fault(SHUNT, 2004);
        is("two of four that are gone", some.mend(1, 1), 2);
        is("the first one that is left", some.ofFault(0, 0), SHUNT);
        is("the second one that is left", some.ofFault(1, 0), BREAK);
    }

    private static void thoseBehindAreShifted() {
        promise = 15;
        CableShip ship = fullLineOfType(1);
        ship.fault(BREAK, 11004);
        ship.fault(SHUNT, 10004);
        is("one is gone", ship.mend(10, 0), 1);
        ship.fault(BREAK, 11205);
        is("the one ahead is where it was", ship.measure(false, true, 2 * (10004 / 200 + 10)), 10004);
        passUntilCalm(ship);
        is("the one right ahead of the cell stays, the one at its begin goes", ship.mend(11, 0), 1);
        is("one is left", ship.faults(), 1);
        CableShip behind = fullLineOfType(1);
        behind.fault(BREAK, 11005);
        behind.mend(10, 0);
        is("from A, 200 metres more", behind.measure(false, false, 11205 / 200 + 10), 11205);
        is("from B, as far as before", behind.measure(true, false, 89000 / 200 + 10), 89000);
        passUntilCalm(behind);
        is("it is the first metre of the next cell", behind.mend(11, 0), 1);
        CableShip flat = shipIn("ccccccccc");
        for (int cell = 0; cell < 100; cell++) {
            flat.sound(cell, 0, 0);
        }
        flat.make(1, 60000, 0);
        flat.make(1, 60000, 0);
        layAcross(flat, 0);
        flat.fault(BREAK, 50000);
        flat.mend(49, 0);
        is("at no depth nothing is shifted", flat.measure(false, false, 260), 50000);
        is("the metres of the line", flat.line(0), 100000);
    }

    private static void cellsBehindAreShifted() {
        promise = 25;
        CableShip ship = fullLine();
        ship.mend(50, 0);
        is("the begin of the cell ahead", ship.cell(49, 2), 49005);
        is("its metres", ship.cell(49, 3), 1000);
        is("the begin of the cell", ship.cell(50, 2), 50005);
        is("its metres", ship.cell(50, 3), 1200);
        is("the begin of the next one", ship.cell(51, 2), 51205);
        is("its metres", ship.cell(51, 3), 1000);
        is("the begin of the last one", ship.cell(99, 2), 99205);
        is("the metres of the line", ship.line(0), 100205);
        promise = 30;
        int first = ship.metre(50005);
        is("the metre ahead of the cell", ship.metre(50004), 100000 + 50004);
        is("the last metre of the cell", ship.metre(51204), first + 1199);
        is("the first metre behind it", ship.metre(51205), 100000 + 51005);
        is("the last metre", ship.metre(100204), 40004);
        fails("behind the last metre", INDEX, () -> ship.metre(100205));
    }

    private static void aBuoyedLineStaysBuoyed() {
        promise = 15;
        CableShip ship = buoyed();
        ship.mend(1, 1);
        is("it is buoyed", ship.line(6), 1);
        is("metres to be put", ship.line(7), 200);
        is("cells", ship.line(1), 3);
        is("the last cell", ship.cell(2, 3), 800);
        ship.pass(3);
        is("takeUp(1)", ship.takeUp(1), 200);
        is("the last cell", ship.cell(2, 3), 1000);
        rowIs("mended and taken up", ship, 1005, J, 1200, J, 800, J, 200);
        is("lay(1, 0, 1)", ship.lay(1, 0, 1), 1);
        is("all is kept", ship.isKept(), true);
    }

    private static void mendedAgainAndAgain() {
        promise = 15;
        CableShip ship = fullLine();
        for (int i = 0; i < 26; i++) {
            ship.make(1, 90000, i % 3);
        }
        int[] cells = {0, 99, 50, 35, 36, 71, 72, 49, 51, 50, 0, 99, 1, 98};
        for (int i = 0; i < 2 * cells.length; i++) {
            is("faults that are gone", ship.mend(cells[i % cells.length], i % 3), 0);
            ship.pass(2);
            passUntilCalm(ship);
        }
        is("the metres of the line", ship.line(0), 100005 + 2 * cells.length * 200);
        is("the cell 50", ship.cell(50, 3), 1000 + 4 * 200);
        is("the cell 0", ship.cell(0, 3), 1005 + 4 * 200);
        is("all is kept", ship.isKept(), true);
        metresAreAlike(ship);
    }

    /** At so many places that an object that was made by some 300 calls stays below 512 of them. */
    private static void metresAreAlike(CableShip ship) {
        promise = 31;
        int last = ship.line(0) - 1;
        for (int i = 0; i <= 80; i++) {
            int place = (int) ((long) i * last / 80);
            is("metreAnew(" + place + ")", ship.metreAnew(place), ship.metre(place));
        }
    }

    private static void eachMetreAnew() {
        promise = 31;
        CableShip ship = shipIn("csccccccsccccc");
        ship.make(1, 9000, 0);
        ship.make(1, 4000, 1);
        ship.lay(3, 0, 0);
        is("the first metre that was laid", ship.metreAnew(0), 0);
        is("the last metre that was laid", ship.metreAnew(3004), 3004);
        ship.pass(2);
        ship.mend(1, 1);
        int[][] mended = {{0, 0}, {1004, 1004}, {1005, 100000}, {2204, 101199}, {2205, 2005}, {3004, 2804}};
        for (int[] each : mended) {
            is("metreAnew(" + each[0] + ") when mended", ship.metreAnew(each[0]), each[1]);
        }
        fails("metreAnew(3005) when mended", INDEX, () -> ship.metreAnew(3005));
        ship.pass(3);
        ship.takeUp(0);
        int[][] up = {{0, 0}, {2204, 101199}, {2205, 2005}, {3004, 2804}, {3005, 3005}, {3204, 3204}};
        for (int[] each : up) {
            is("metreAnew(" + each[0] + ") when taken up", ship.metreAnew(each[0]), each[1]);
        }
        ship.pass(3);
        is("it is buoyed again", ship.line(6), 1);
        is("the last metre that is left", ship.metreAnew(3004), 2804);
        fails("the metres that are lost again", INDEX, () -> ship.metreAnew(3005));
        metresAreAlike(ship);
    }
}
