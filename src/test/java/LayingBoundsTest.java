/** The bounds in what the document says of cable, tanks and laying: right at each, and right past it. */
public final class LayingBoundsTest extends ShipTestBase {
    private static final int[] MOST_DEPTHS = {508, 1011, 2516};

    public static void main(String[] args) {
        atMost30Pieces();
        theSmallestAndTheGreatestPiece();
        anEmptyTank();
        fromTheLowestMetreOn();
        asManyMetresAsTheTankHas();
        theTensionThatIsJustNotTooGreat();
        theTensionOfEachTypeThatGoesOut();
        typesWithinACell();
        typesBehindWhatLies();
        slackInThousandths();
        fewerThan12Cells();
        asLongAsTheyCanBeLaid();
        notWhenBuoyed();
        theLastCells();
        jointsWhereMetresDoNotFollow();
        noJointWithARepeaterBetween();
        whereARepeaterCanBe();
        asManyMetresAsWereLost();
        typesWhenTakenUp();
        tensionDoesNotMatterWhenTakenUp();
        theJointWhereItIsTakenUp();
        feedsAtTheirBounds();
        placesAtTheirBounds();
        thingsOfTheLine();
        cellsThatAreNotLaid();
        allMetresAreKept();
        end();
    }

    // ---- cable, tanks

    private static void atMost30Pieces() {
        promise = 7;
        CableShip ship = new CableShip();
        for (int i = 0; i < 30; i++) {
            is("make, piece " + i, ship.make(i % 4, 100 + i, i % 3), i);
        }
        fails("make, piece 30", STATE, () -> ship.make(0, 1, 0));
        is("pieces in the tank 2", ship.tank(2, 1), 10);
        is("the last piece", ship.tank(2, 3), 29);
        is("its type", ship.tank(2, 2), 1);
        is("metres in the tank 2", ship.tank(2, 0), 102 * 10 + 3 * 45);
        CableShip used = new CableShip();
        for (int i = 0; i < 30; i++) {
            used.make(1, 1005, 0);
        }
        used.lay(3, 0, 0);
        fails("pieces that went out count, too", STATE, () -> used.make(1, 1, 0));
    }

    private static void theSmallestAndTheGreatestPiece() {
        promise = 7;
        CableShip ship = new CableShip();
        is("one metre of type 0", ship.make(0, 1, 0), 0);
        is("the tank", ship.tank(0, 0), 1);
        is("90000 metres of type 3", ship.make(3, 90000, 2), 1);
        is("the tank", ship.tank(2, 0), 90000);
        is("its type", ship.tank(2, 2), 3);
        is("the tank between", ship.tank(1, 0), 0);
        CableShip last = fullLineOfType(2);
        last.make(2, 90000, 2);
        last.mend(0, 2);
        is("the metre that goes out next", last.tank(2, 4), 1205);
        CableShip single = new CableShip();
        single.make(1, 1004, 0);
        single.make(1, 1, 0);
        single.lay(1, 0, 0);
        rowIs("a piece of one metre", single, 1, J, 1004);
    }

    private static void anEmptyTank() {
        promise = 27;
        CableShip ship = new CableShip();
        ship.make(2, 1005, 1);
        int[] due = {0, 0, NONE, NONE, NONE};
        for (int i = 0; i < 5; i++) {
            is("tank(0, " + i + ")", ship.tank(0, i), due[i]);
            is("tank(2, " + i + ")", ship.tank(2, i), due[i]);
        }
        int[] full = {1005, 1, 2, 0, 0};
        for (int i = 0; i < 5; i++) {
            is("tank(1, " + i + ")", ship.tank(1, i), full[i]);
        }
        ship.lay(1, 0, 1);
        for (int i = 0; i < 5; i++) {
            is("tank(1, " + i + ") when all went out", ship.tank(1, i), due[i]);
        }
    }

    private static void fromTheLowestMetreOn() {
        promise = 27;
        CableShip ship = new CableShip();
        ship.make(3, 1600, 0);
        ship.make(2, 405, 0);
        ship.lay(1, 0, 0);
        is("the first metre that went out", ship.metre(0), 100000);
        is("the last metre of the top piece", ship.metre(404), 100404);
        is("the lowest metre of the next piece", ship.metre(405), 0);
        is("the last metre that went out", ship.metre(1004), 599);
        is("the metre that goes out next", ship.tank(0, 4), 600);
        is("metres that are left", ship.tank(0, 0), 1000);
        is("the piece on top", ship.tank(0, 3), 0);
        ship.lay(1, 0, 0);
        is("the next metre", ship.metre(1005), 600);
        is("the last metre of the piece", ship.metre(2004), 1599);
        is("nothing is left", ship.tank(0, 1), 0);
    }

    private static void asManyMetresAsTheTankHas() {
        promise = 8;
        for (int metres = 1004; metres <= 1006; metres++) {
            CableShip ship = new CableShip();
            ship.make(1, 9000, 1);
            ship.make(1, metres - 4, 0);
            ship.make(1, 4, 0);
            is("cells from " + metres + " metres", ship.lay(1, 0, 0), metres < 1005 ? 0 : 1);
            is("what is left of " + metres, ship.tank(0, 0), metres < 1005 ? metres : metres - 1005);
            is("the other tank", ship.tank(1, 0), 9000);
        }
    }

    // ---- laying

    private static void theTensionThatIsJustNotTooGreat() {
        promise = 8;
        for (int type = 0; type < 3; type++) {
            for (int more = 0; more < 2; more++) {
                CableShip ship = new CableShip();
                ship.sound(0, MOST_DEPTHS[type] + more, 0);
                ship.make(type, 90000, 0);
                is("cells of type " + type + ", " + more + " metres too deep", ship.lay(1, 0, 0), 1 - more);
            }
        }
        CableShip ship = new CableShip();
        ship.sound(0, 6000, 0);
        ship.make(3, 90000, 0);
        is("type 3 at 6000 metres", ship.lay(1, 0, 0), 1);
        is("its metres", ship.line(0), 19000);
    }

    private static void theTensionOfEachTypeThatGoesOut() {
        promise = 8;
        int ground = 1000 + 509 * 509 / 2000;
        for (int more = 0; more < 2; more++) {
            CableShip below = new CableShip();
            below.sound(0, 509, 0);
            below.make(0, 500, 0);
            below.make(1, ground - more, 0);
            is("with " + more + " metres of type 0 below", below.lay(1, 0, 0), 1 - more);
            CableShip above = new CableShip();
            above.sound(0, 509, 0);
            above.make(1, ground, 0);
            if (more > 0) {
                above.make(0, more, 0);
            }
            is("with " + more + " metres of type 0 above", above.lay(1, 0, 0), 1 - more);
        }
    }

    private static boolean mayFollow(int type, int other) {
        return type - other <= 1 && other - type <= 1;
    }

    private static void typesWithinACell() {
        promise = 8;
        for (int top = 0; top < 4; top++) {
            for (int next = 0; next < 4; next++) {
                CableShip ship = new CableShip();
                ship.make(next, 9000, 0);
                ship.make(top, 1004, 0);
                is("type " + next + " behind " + top + " in a cell", ship.lay(1, 0, 0), mayFollow(top, next) ? 1 : 0);
                CableShip exact = new CableShip();
                exact.make(next, 9000, 0);
                exact.make(top, 1005, 0);
                is("type " + next + " that stays in the tank", exact.lay(1, 0, 0), 1);
            }
        }
    }

    private static void typesBehindWhatLies() {
        promise = 8;
        for (int ahead = 0; ahead < 4; ahead++) {
            for (int behind = 0; behind < 4; behind++) {
                CableShip ship = new CableShip();
                CableShip repeated = new CableShip();
                for (CableShip each : new CableShip[] {ship, repeated}) {
                    each.make(ahead, 1005, 0);
                    each.make(behind, 1000, 1);
                    each.lay(1, 0, 0);
                }
                repeated.repeater();
                int due = mayFollow(ahead, behind) ? 1 : 0;
                is("type " + behind + " behind " + ahead, ship.lay(1, 0, 1), due);
                is("type " + behind + " behind " + ahead + " and a repeater", repeated.lay(1, 0, 1), due);
                is("what is left in the tank", ship.tank(1, 0), 1000 - 1000 * due);
            }
        }
        CableShip last = new CableShip();
        last.make(1, 1004, 0);
        last.make(2, 1, 1);
        last.make(1, 1004, 1);
        last.make(0, 1000, 2);
        is("a cell with one metre of type 2 at its end", last.lay(1, 0, 1), 1);
        rowIs("with one metre at its end", last, 1004, J, 1);
        is("type 0 behind that one metre", last.lay(1, 0, 2), 0);
    }

    private static void slackInThousandths() {
        promise = 8;
        slackIs(1000, 100, 0, 1000);
        slackIs(1000, 100, 1, 1001);
        slackIs(1000, 100, 49, 1049);
        slackIs(1000, 100, 50, 1050);
        slackIs(1001, 145, 1, 1002);
        slackIs(1001, 145, 50, 1051);
        slackIs(1019, 296, 50, 1069);
        slackIs(1020, 300, 50, 1071);
        slackIs(18405, 6000, 50, 19325);
        CableShip deep = new CableShip();
        deep.make(3, 90000, 0);
        deep.sound(0, 6000, 0);
        deep.lay(1, 50, 0);
        is("19000 metres and 950 of slack", deep.cell(0, 3), 19950);
    }

    /** The second cell is at this depth, with 100 metres ahead of it, which gives this ground. */
    private static void slackIs(int ground, int depth, int slack, int due) {
        CableShip ship = new CableShip();
        ship.make(3, 90000, 0);
        ship.sound(1, depth, 0);
        is("the ground at " + depth, ship.cell(1, 1), ground);
        ship.lay(1, 0, 0);
        ship.lay(1, slack, 0);
        is("a ground of " + ground + " with a slack of " + slack, ship.cell(1, 3), due);
        is("the line", ship.line(0), 1005 + due);
        is("what is left in the tank", ship.tank(0, 0), 90000 - 1005 - due);
    }

    private static void fewerThan12Cells() {
        promise = 8;
        CableShip ship = shipIn("cccc");
        ship.make(1, 90000, 0);
        is("twelve at once", ship.lay(12, 0, 0), 12);
        is("no thirteenth on this day", ship.lay(1, 0, 0), 0);
        ship.pass(1);
        is("eleven on the next day", ship.lay(11, 0, 0), 11);
        is("one more of two", ship.lay(2, 0, 0), 1);
        is("none more", ship.lay(12, 0, 0), 0);
        ship.pass(1);
        is("one by one", ship.lay(1, 0, 0), 1);
        is("and twelve, of which eleven can be", ship.lay(12, 0, 0), 11);
        ship.pass(1);
        is("twelve on the day 3", ship.lay(12, 0, 0), 12);
        is("no thirteenth on the day 3", ship.lay(1, 0, 0), 0);
        is("all of them", ship.line(1), 48);
    }

    private static void asLongAsTheyCanBeLaid() {
        promise = 8;
        CableShip ship = new CableShip();
        ship.make(1, 3004, 0);
        ship.make(1, 9000, 1);
        is("two of twelve, as a metre is missing for the third", ship.lay(12, 0, 0), 2);
        is("what is left", ship.tank(0, 0), 999);
        is("from another tank", ship.lay(1, 0, 1), 1);
        CableShip over = new CableShip();
        over.make(1, 9000, 0);
        over.wreck(1, true);
        is("none is left out", over.lay(3, 0, 0), 1);
        CableShip deep = new CableShip();
        deep.make(0, 9000, 0);
        deep.sound(2, 509, 0);
        is("two of twelve, as the third is too deep", deep.lay(12, 0, 0), 2);
        CableShip types = new CableShip();
        types.make(3, 9000, 0);
        types.make(1, 2005, 0);
        is("two of twelve, as a type differs too much", types.lay(12, 0, 0), 2);
    }

    private static void notWhenBuoyed() {
        promise = 8;
        CableShip ship = shipIn("csc");
        ship.make(1, 9000, 0);
        ship.lay(2, 0, 0);
        ship.pass(2);
        is("cells when buoyed", ship.lay(1, 0, 0), 0);
        ship.takeUp(0);
        is("cells when taken up", ship.lay(1, 0, 0), 1);
    }

    private static void theLastCells() {
        promise = 8;
        CableShip ship = shipIn("ccccccccc");
        ship.make(1, 60000, 0);
        ship.make(1, 60000, 0);
        for (int i = 0; i < 8; i++) {
            ship.lay(12, 0, 0);
            ship.pass(1);
        }
        is("three of the last four", ship.lay(3, 0, 0), 3);
        is("the last one of two that are told", ship.lay(2, 0, 0), 1);
        is("cells", ship.line(1), 100);
        fails("no cell is left", STATE, () -> ship.lay(1, 0, 0));
        is("the last cell's begin", ship.cell(99, 2), 99005);
        is("the last cell's metres", ship.cell(99, 3), 1000);
    }

    private static void jointsWhereMetresDoNotFollow() {
        promise = 8;
        CableShip next = new CableShip();
        next.make(1, 9000, 0);
        next.lay(1, 0, 0);
        next.lay(2, 7, 0);
        rowIs("metres that follow one another", next, 3019);
        is("the last metre", next.thing(0, 3), 3018);
        CableShip other = new CableShip();
        other.make(1, 9000, 0);
        other.make(1, 9000, 1);
        other.lay(1, 0, 0);
        other.lay(1, 5, 1);
        rowIs("metres of two pieces", other, 1005, J, 1005);
        other.lay(1, 0, 0);
        rowIs("metres of another piece, with the next number", other, 1005, J, 1005, J, 1000);
        is("the number", other.thing(4, 2), 1005);
        other.lay(1, 0, 0);
        rowIs("and laid on", other, 1005, J, 1005, J, 2000);
    }

    private static void noJointWithARepeaterBetween() {
        promise = 9;
        CableShip ship = new CableShip();
        ship.make(1, 9000, 0);
        ship.make(1, 1500, 1);
        ship.lay(1, 0, 0);
        ship.repeater();
        ship.lay(1, 0, 0);
        rowIs("the next metre behind a repeater", ship, 1005, R, 1000);
        ship.repeater();
        ship.lay(1, 0, 1);
        rowIs("another piece behind a repeater", ship, 1005, R, 1000, R, 1000);
        ship.make(1, 600, 1);
        ship.make(1, 300, 1);
        ship.repeater();
        ship.lay(1, 0, 1);
        rowIs("three pieces behind a repeater", ship, 1005, R, 1000, R, 1000, R, 300, J, 600, J, 100);
    }

    private static void whereARepeaterCanBe() {
        promise = 9;
        CableShip ship = shipIn("c8sc");
        fails("nothing lies", STATE, ship::repeater);
        ship.make(1, 9000, 0);
        fails("cable in a tank does not lie", STATE, ship::repeater);
        ship.lay(1, 0, 0);
        ship.pass(1);
        is("in waves of 8, as the ship need not work for it", ship.repeater(), 1);
        fails("the last thing is one", STATE, ship::repeater);
        ship.pass(2);
        fails("it is buoyed, and the last thing is none", STATE, ship::repeater);
        is("how many are left", ship.line(4), 0);
        ship.takeUp(0);
        is("it is taken up", ship.repeater(), 1);
        rowIs("with a repeater behind what was taken up", ship, 805, J, 200, R);
        CableShip full = fullLine();
        full.mend(99, 0);
        rowIs("with a joint at B", full, 36005, R, 23995, J, 12005, R, 27000, J, 1200, J);
        is("the last thing is a joint", full.repeater(), 3);
        fails("the last thing is a repeater", STATE, full::repeater);
    }

    // ---- taking up

    private static void asManyMetresAsWereLost() {
        promise = 10;
        for (int metres = 199; metres <= 201; metres++) {
            CableShip ship = shipIn("csc");
            ship.make(1, 2005, 0);
            ship.lay(2, 0, 0);
            ship.make(1, metres - 1, 1);
            ship.make(1, 1, 1);
            ship.pass(2);
            if (metres < 200) {
                fails("takeUp of " + metres, STATE, () -> ship.takeUp(1));
                is("what is left", ship.tank(1, 0), metres);
                is("it is buoyed", ship.line(6), 1);
            } else {
                is("takeUp of " + metres, ship.takeUp(1), 200);
                is("what is left", ship.tank(1, 0), metres - 200);
                is("it is no longer buoyed", ship.line(6), 0);
                is("nothing is to be put", ship.line(7), 0);
                is("the waste stays", ship.line(5), 200);
                is("the metres of the last cell", ship.cell(1, 3), 1000);
                rowIs("taken up", ship, 1805, J, 1, J, 199);
            }
        }
    }

    private static void typesWhenTakenUp() {
        promise = 10;
        for (int ahead = 0; ahead < 4; ahead++) {
            for (int behind = 0; behind < 4; behind++) {
                CableShip ship = buoyedOfType(ahead);
                ship.make(behind, 200, 1);
                fails("type " + behind + " put behind " + ahead, mayFollow(ahead, behind) ? null : STATE,
                    () -> ship.takeUp(1));
                CableShip two = buoyedOfType(ahead);
                two.make(behind, 1, 1);
                two.make(ahead, 199, 1);
                fails("type " + behind + " within what is put behind " + ahead, mayFollow(ahead, behind) ? null : STATE,
                    () -> two.takeUp(1));
            }
        }
        CableShip one = shipIn("csc");
        one.make(2, 201, 0);
        one.make(1, 1804, 0);
        one.lay(2, 0, 0);
        one.make(0, 200, 1);
        one.pass(2);
        fails("type 0 behind the one metre of type 2 that is left", STATE, () -> one.takeUp(1));
        CableShip gone = shipIn("csc");
        gone.make(2, 200, 0);
        gone.make(1, 1805, 0);
        gone.lay(2, 0, 0);
        gone.make(0, 200, 1);
        gone.pass(2);
        is("type 0 when all of type 2 is lost", gone.takeUp(1), 200);
    }

    private static CableShip buoyedOfType(int type) {
        CableShip ship = shipIn("csc");
        ship.make(type, 2005, 0);
        ship.lay(2, 0, 0);
        ship.pass(2);
        return ship;
    }

    private static void tensionDoesNotMatterWhenTakenUp() {
        promise = 10;
        CableShip ship = shipIn("csc");
        ship.sound(0, 509, 0);
        ship.make(1, 90000, 0);
        ship.lay(1, 0, 0);
        ship.make(0, 200, 1);
        ship.pass(2);
        is("the tension of type 0", ship.tension(0, 0), 61);
        is("type 0 is put", ship.takeUp(1), 200);
        CableShip wreck = shipIn("csc");
        wreck.make(1, 9000, 0);
        wreck.lay(2, 0, 0);
        wreck.pass(2);
        wreck.wreck(1, true);
        wreck.crossing(1, 1);
        is("a wreck does not matter either", wreck.takeUp(0), 200);
    }

    private static void theJointWhereItIsTakenUp() {
        promise = 10;
        CableShip ship = shipIn("cscsc");
        ship.make(1, 9000, 0);
        ship.lay(2, 0, 0);
        ship.pass(2);
        ship.takeUp(0);
        rowIs("taken up", ship, 1805, J, 200);
        ship.lay(1, 0, 0);
        rowIs("and laid on", ship, 1805, J, 1200);
        is("its first metre", ship.thing(2, 2), 2005);
        ship.pass(2);
        ship.takeUp(0);
        rowIs("taken up once more", ship, 1805, J, 1000, J, 200);
        CableShip same = shipIn("cscsc");
        same.make(1, 9000, 0);
        same.lay(2, 0, 0);
        same.pass(2);
        same.takeUp(0);
        same.pass(2);
        rowIs("without the 200 metres and their joint", same, 1805);
        same.takeUp(0);
        rowIs("with others and their joint", same, 1805, J, 200);
        is("their first metre", same.metre(1805), 2205);
        CableShip end = shipIn("cscs");
        end.make(1, 9000, 0);
        end.lay(2, 0, 0);
        end.pass(2);
        end.takeUp(0);
        end.repeater();
        end.pass(1);
        rowIs("without a repeater at its end", end, 1805);
    }

    private static void feedsAtTheirBounds() {
        promise = 11;
        CableShip ship = fullLine();
        ship.feed(0, 0);
        is("fed with nothing", ship.isFed(), false);
        ship.feed(9999, 0);
        is("fed from A alone", ship.isFed(), true);
        is("the earth", ship.earth(), 100005);
        ship.feed(0, 9999);
        is("fed from B alone", ship.isFed(), true);
        is("the earth", ship.earth(), 99);
        fails("10000 from A", ARGUMENT, () -> ship.feed(10000, 0));
        is("the earth is as it was", ship.earth(), 99);
        fails("-1 from B", ARGUMENT, () -> ship.feed(9999, -1));
        is("the earth is as it was", ship.earth(), 99);
    }

    // ---- questions

    private static void placesAtTheirBounds() {
        promise = 30;
        CableShip ship = new CableShip();
        fails("metre(0) of nothing", INDEX, () -> ship.metre(0));
        fails("metreAnew(0) of nothing", INDEX, () -> ship.metreAnew(0));
        ship.make(1, 9000, 0);
        ship.make(1, 600, 0);
        ship.lay(2, 0, 0);
        int[][] due = {{0, 100000}, {599, 100599}, {600, 0}, {1004, 404}, {1005, 405}, {2004, 1404}};
        for (int[] each : due) {
            promise = 30;
            is("metre(" + each[0] + ")", ship.metre(each[0]), each[1]);
            promise = 31;
            is("metreAnew(" + each[0] + ")", ship.metreAnew(each[0]), each[1]);
        }
        fails("metre(2005)", INDEX, () -> ship.metre(2005));
        fails("metreAnew(2005)", INDEX, () -> ship.metreAnew(2005));
        fails("metre(-1)", INDEX, () -> ship.metre(-1));
        fails("metreAnew(-1)", INDEX, () -> ship.metreAnew(-1));
    }

    private static void thingsOfTheLine() {
        promise = 29;
        CableShip ship = new CableShip();
        fails("thing(0, 0) of nothing", INDEX, () -> ship.thing(0, 0));
        ship.make(1, 9000, 0);
        ship.make(1, 1, 0);
        ship.lay(1, 0, 0);
        ship.repeater();
        int[][] due = {{0, 1, 0, 0}, {1, NONE, NONE, NONE}, {0, 0, 0, 1003}, {2, NONE, NONE, NONE}};
        for (int i = 0; i < 16; i++) {
            is("thing(" + i / 4 + ", " + i % 4 + ")", ship.thing(i / 4, i % 4), due[i / 4][i % 4]);
        }
        fails("thing(4, 0)", INDEX, () -> ship.thing(4, 0));
        fails("thing(3, 4)", ARGUMENT, () -> ship.thing(3, 4));
    }

    private static void cellsThatAreNotLaid() {
        promise = 25;
        CableShip ship = shipIn("cs");
        ship.make(1, 9000, 0);
        is("the begin of the first cell", ship.cell(0, 2), NONE);
        is("its metres", ship.cell(0, 3), NONE);
        is("its depth", ship.cell(0, 0), 100);
        is("its ground", ship.cell(0, 1), 1005);
        ship.lay(2, 10, 0);
        is("the begin of the first cell", ship.cell(0, 2), 0);
        is("its metres", ship.cell(0, 3), 1015);
        is("the begin of the last one that is laid", ship.cell(1, 2), 1015);
        is("its metres", ship.cell(1, 3), 1010);
        is("the begin of the next one", ship.cell(2, 2), NONE);
        is("its metres", ship.cell(2, 3), NONE);
        is("the begin of the cell 99", ship.cell(99, 2), NONE);
        ship.pass(1);
        is("lost metres are not counted", ship.cell(1, 3), 810);
        is("nor in the line", ship.line(0), 1825);
    }

    private static void allMetresAreKept() {
        promise = 38;
        CableShip ship = shipIn("cscccccccc");
        is("of none", ship.isKept(), true);
        for (int i = 0; i < 30; i++) {
            ship.make(1, 90000, i % 3);
        }
        is("of 2700000", ship.isKept(), true);
        ship.lay(12, 50, 0);
        is("laid", ship.isKept(), true);
        ship.pass(1);
        is("buoyed", ship.isKept(), true);
        ship.pass(1);
        ship.mend(3, 1);
        is("mended", ship.isKept(), true);
        ship.pass(3);
        ship.takeUp(2);
        is("taken up", ship.isKept(), true);
        int stowed = ship.tank(0, 0) + ship.tank(1, 0) + ship.tank(2, 0);
        is("the sum of all", stowed + ship.line(0) + ship.line(5), 2700000);
    }
}
