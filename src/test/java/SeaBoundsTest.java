/** The bounds in what the document says of the sea, the days and storms: right at each, and right past it. */
public final class SeaBoundsTest extends ShipTestBase {
    public static void main(String[] args) {
        aSeaOf100Metres();
        firstAndLastCell();
        depthsAtTheirBounds();
        theSoundingThatErrsLeast();
        ofSeveralTheLatest();
        groundOfTheFirstCell();
        groundBehindAnother();
        groundIsRoundedDown();
        wreckAhead();
        crossingAhead();
        drawsWrapAround();
        theDrawOfTheDay0();
        theLastDay();
        wavesOfAtMost6();
        busyUntilALaterDay();
        onlyWavesOf9Buoy();
        theOnlyCellInAStorm();
        onlyALineThatIsNotAtB();
        onlyALineThatIsNotBuoyed();
        noneIfItHasNone();
        jointsBehindAllThatIsLeft();
        repeatersBehindAllThatIsLeft();
        faultsInWhatIsLost();
        tensionAtItsBounds();
        end();
    }

    private static void aSeaOf100Metres() {
        promise = 1;
        CableShip ship = new CableShip();
        is("the first cell", ship.cell(0, 0), 100);
        is("the last cell", ship.cell(99, 0), 100);
        is("the ground of the first cell", ship.cell(0, 1), 1005);
        is("the ground of the last cell", ship.cell(99, 1), 1000);
        is("the seed 0", ship.waves(), 0);
        ship.pass(1);
        is("the waves of the day 1", ship.waves(), 4);
    }

    private static void firstAndLastCell() {
        promise = 2;
        CableShip ship = new CableShip();
        is("sound of the cell 0", ship.sound(0, 11, 0), 11);
        is("sound of the cell 99", ship.sound(99, 12, 0), 12);
        is("the cell 1", ship.cell(1, 0), 100);
        is("the cell 98", ship.cell(98, 0), 100);
        promise = 3;
        is("wreck in the cell 0", ship.wreck(0, true), false);
        is("wreck in the cell 99", ship.wreck(99, true), false);
        is("wreck in the cell 0 again", ship.wreck(0, true), true);
        is("wreck in the cell 99 again", ship.wreck(99, true), true);
        is("wreck in the cell 1", ship.wreck(1, false), false);
        is("wreck in the cell 98", ship.wreck(98, false), false);
        promise = 4;
        is("crossing in the cell 0", ship.crossing(0, 2), 0);
        is("crossing in the cell 99", ship.crossing(99, 1), 0);
        is("crossing in the cell 0 again", ship.crossing(0, 0), 2);
        is("crossing in the cell 99 again", ship.crossing(99, 0), 1);
        is("crossing in the cell 1", ship.crossing(1, 0), 0);
        is("crossing in the cell 98", ship.crossing(98, 0), 0);
    }

    private static void depthsAtTheirBounds() {
        promise = 2;
        CableShip ship = new CableShip();
        is("0 metres", ship.sound(50, 0, 5), 0);
        is("the cell then", ship.cell(50, 0), 0);
        is("6000 metres", ship.sound(50, 6000, 5), 6000);
        is("the cell then", ship.cell(50, 0), 6000);
    }

    private static void theSoundingThatErrsLeast() {
        promise = 2;
        CableShip ship = new CableShip();
        is("one that errs by 500 is better than none", ship.sound(3, 777, 500), 777);
        is("one that errs by 499", ship.sound(3, 888, 499), 888);
        is("one that errs by 500 no longer counts", ship.sound(3, 999, 500), 888);
        is("one that errs by 1", ship.sound(3, 50, 1), 50);
        is("one that errs by 2", ship.sound(3, 60, 2), 50);
        is("one that errs by 0", ship.sound(3, 70, 0), 70);
        is("one that errs by 1 no longer counts", ship.sound(3, 80, 1), 70);
        is("one between two earlier ones", between(10, 12, 11), 1);
    }

    private static int between(int... errors) {
        CableShip ship = new CableShip();
        int told = 0;
        for (int i = 0; i < errors.length; i++) {
            told = ship.sound(4, i + 1, errors[i]);
        }
        return told;
    }

    private static void ofSeveralTheLatest() {
        promise = 2;
        is("the second of two that err by 7", between(7, 7), 2);
        is("the third of three that err by 7", between(7, 7, 7), 3);
        is("the second of two that err by 500", between(500, 500), 2);
        is("the second of two that err by 0", between(0, 0), 2);
        is("the third one, as the second one errs more", between(7, 8, 7), 3);
        is("the second one, as the third one errs more", between(7, 7, 8), 2);
    }

    private static void groundOfTheFirstCell() {
        promise = 25;
        groundIs(0, 0, 1000);
        groundIs(0, 44, 1000);
        groundIs(0, 45, 1001);
        groundIs(0, 6000, 19000);
    }

    private static void groundIs(int cell, int depth, int due) {
        CableShip ship = new CableShip();
        ship.sound(cell, depth, 0);
        is("the ground of the cell " + cell + " at " + depth, ship.cell(cell, 1), due);
    }

    private static void groundBehindAnother() {
        promise = 25;
        groundIs(1, 100, 1000);
        groundIs(1, 6000, 1000 + 5900 * 5900 / 2000);
        groundIs(99, 0, 1005);
        CableShip ship = new CableShip();
        ship.sound(7, 6000, 0);
        ship.sound(8, 0, 0);
        is("down by 6000", ship.cell(8, 1), 19000);
        is("as deep as the one ahead", ship.cell(5, 1), 1000);
        is("behind a cell that was sounded", ship.cell(9, 1), 1005);
        ship.sound(8, 6000, 0);
        is("the ground follows the soundings", ship.cell(8, 1), 1000);
        is("that of the next cell, too", ship.cell(9, 1), 1000 + 5900 * 5900 / 2000);
    }

    private static void groundIsRoundedDown() {
        promise = 25;
        groundIs(5, 100 + 44, 1000);
        groundIs(5, 100 - 44, 1000);
        groundIs(5, 100 + 45, 1001);
        groundIs(5, 100 - 45, 1001);
        groundIs(5, 100 + 63, 1001);
        groundIs(5, 100 - 63, 1001);
        groundIs(5, 100 + 64, 1002);
        groundIs(5, 100 - 64, 1002);
    }

    private static CableShip withCable() {
        CableShip ship = new CableShip();
        ship.make(1, 90000, 0);
        return ship;
    }

    private static void wreckAhead() {
        promise = 3;
        CableShip first = withCable();
        first.wreck(0, true);
        is("a wreck in the first cell", first.lay(1, 0, 0), 0);
        first.wreck(0, false);
        is("it is away", first.lay(1, 0, 0), 1);
        CableShip ship = withCable();
        ship.wreck(3, true);
        is("up to the wreck", ship.lay(3, 0, 0), 3);
        is("not over it", ship.lay(9, 0, 0), 0);
        ship.wreck(2, true);
        ship.wreck(3, false);
        is("one in a cell that is laid does not matter", ship.lay(1, 0, 0), 1);
    }

    private static void crossingAhead() {
        promise = 4;
        int[] due = {4, 0, 4};
        for (int what = 0; what < 3; what++) {
            CableShip ship = withCable();
            ship.crossing(0, what);
            is("cells over a crossing of " + what, ship.lay(4, 0, 0), due[what]);
        }
        CableShip ship = withCable();
        ship.crossing(3, 1);
        is("up to the crossing", ship.lay(4, 0, 0), 3);
        ship.crossing(3, 2);
        ship.crossing(4, 1);
        is("with a consent, up to the next one", ship.lay(4, 0, 0), 1);
        ship.wreck(4, true);
        ship.crossing(4, 2);
        is("a consent does not help against a wreck", ship.lay(4, 0, 0), 0);
    }

    private static void drawsWrapAround() {
        promise = 23;
        wavesOnTheDay1(872, 65474);
        wavesOnTheDay1(873, 12);
        wavesOnTheDay1(20097, 65535);
        wavesOnTheDay1(65536, 65536);
        wavesOnTheDay1(45438, 0);
        wavesOnTheDay1(0, 74);
        CableShip ship = new CableShip();
        ship.weather(65536);
        ship.pass(400);
        is("the waves 400 days behind 65536", ship.waves(), 6);
        CableShip other = new CableShip();
        other.weather(65535);
        other.pass(400);
        is("the waves 400 days behind 65535", other.waves(), drawOf(65535, 400) % 10);
        other.pass(1);
        is("the waves on the day 401", other.waves(), drawOf(65535, 401) % 10);
    }

    private static void wavesOnTheDay1(int seed, int draw) {
        CableShip ship = new CableShip();
        is("weather(" + seed + ")", ship.weather(seed), seed % 10);
        ship.pass(1);
        is("the waves behind " + seed, ship.waves(), draw % 10);
    }

    private static void theDrawOfTheDay0() {
        promise = 5;
        CableShip ship = new CableShip();
        for (int seed = 0; seed < 12; seed++) {
            is("weather(" + seed + ")", ship.weather(seed), seed % 10);
            is("waves() then", ship.waves(), seed % 10);
        }
        is("the greatest seed", ship.weather(65536), 6);
        is("the day is still 0", ship.day(), 0);
        ship.make(1, 2000, 0);
        ship.lay(1, 0, 0);
        is("also when something lies", ship.weather(9), 9);
        is("a storm on the day 0 does not buoy", ship.line(6), 0);
        is("nothing is lost by it", ship.line(0), 1005);
    }

    private static void theLastDay() {
        promise = 6;
        CableShip ship = new CableShip();
        for (int i = 1; i <= 50; i++) {
            is("pass(400)", ship.pass(400), 400 * i);
        }
        is("the day", ship.day(), 20000);
        is("its waves", ship.waves(), drawOf(0, 20000) % 10);
        fails("one day more", STATE, () -> ship.pass(1));
        CableShip other = new CableShip();
        other.pass(1);
        for (int i = 0; i < 49; i++) {
            other.pass(400);
        }
        fails("400 days from 19601 on", STATE, () -> other.pass(400));
        is("399 days from 19601 on", other.pass(399), 20000);
    }

    private static void wavesOfAtMost6() {
        promise = 24;
        for (int waves = 0; waves < 10; waves++) {
            CableShip ship = withCable();
            ship.weather(waves);
            is("canWork() with waves of " + waves, ship.canWork(), waves <= 6);
            is("cells with waves of " + waves, ship.lay(1, 0, 0), waves <= 6 ? 1 : 0);
        }
        String[] days = {"cs6", "cs7"};
        for (String each : days) {
            boolean can = each.equals("cs6");
            CableShip up = buoyedIn(each, 100);
            fails("takeUp with waves of " + up.waves(), can ? null : STATE, () -> up.takeUp(0));
            CableShip mended = buoyedIn(each, 100);
            fails("mend with waves of " + mended.waves(), can ? null : STATE, () -> mended.mend(0, 0));
        }
    }

    /** Two cells of this depth, of type 3, buoyed on the day 1; it is the day 2 then. */
    private static CableShip buoyedIn(String days, int depth) {
        CableShip ship = shipIn(days);
        ship.sound(0, depth, 0);
        ship.sound(1, depth, 0);
        ship.make(3, 90000, 0);
        ship.lay(2, 0, 0);
        ship.pass(2);
        return ship;
    }

    private static void busyUntilALaterDay() {
        promise = 24;
        int[][] depthsAndDays = {{0, 3}, {999, 3}, {1000, 4}, {1998, 4}, {1999, 4}, {2000, 5}, {5994, 8}, {5999, 8}, {6000, 9}};
        for (int[] each : depthsAndDays) {
            CableShip ship = buoyedIn("csc" + "c".repeat(each[1]), each[0]);
            ship.mend(0, 0);
            is("canWork() right behind a mending at " + each[0], ship.canWork(), false);
            for (int day = 1; day <= each[1]; day++) {
                ship.pass(1);
                is("canWork() " + day + " days behind one at " + each[0], ship.canWork(), day == each[1]);
            }
        }
        CableShip last = buoyedIn("cscccc", 100);
        last.mend(0, 0);
        last.pass(2);
        fails("takeUp on the last day on which the ship is busy", STATE, () -> last.takeUp(0));
        last.pass(1);
        is("takeUp on the next one", last.takeUp(0), 200);
        CableShip high = buoyedIn("cscccch", 100);
        high.mend(0, 0);
        high.pass(4);
        is("no longer busy, but in high waves", high.canWork(), false);
    }

    private static void onlyWavesOf9Buoy() {
        promise = 6;
        int[] due = {0, 0, 0, 0, 0, 0, 0, 0, 0, 1};
        for (int waves = 0; waves < 10; waves++) {
            CableShip ship = shipIn("c" + waves);
            ship.make(1, 2005, 0);
            ship.lay(2, 0, 0);
            ship.pass(1);
            is("buoyed by waves of " + waves, ship.line(6), due[waves]);
            is("metres to be put", ship.line(7), 200 * due[waves]);
            is("waste", ship.line(5), 200 * due[waves]);
            is("the metres of the line", ship.line(0), 2005 - 200 * due[waves]);
            is("the metres of the last cell", ship.cell(1, 3), 1000 - 200 * due[waves]);
            is("the cells that are laid", ship.line(1), 2);
        }
    }

    private static void theOnlyCellInAStorm() {
        promise = 6;
        CableShip ship = shipIn("csc");
        ship.make(1, 9000, 0);
        ship.lay(1, 0, 0);
        ship.pass(1);
        is("the metres of the only cell", ship.cell(0, 3), 805);
        is("the line", ship.line(0), 805);
        ship.pass(1);
        ship.takeUp(0);
        is("the metres of the only cell, taken up", ship.cell(0, 3), 1005);
    }

    private static void onlyALineThatIsNotAtB() {
        promise = 6;
        CableShip near = inStormNearB(3);
        is("99 cells are laid", near.line(1), 99);
        is("and buoyed by a storm", near.line(6), 1);
        CableShip across = inStormNearB(4);
        is("100 cells are laid", across.line(1), 100);
        is("and not buoyed", across.line(6), 0);
        is("they lose nothing", across.line(0), 100005);
        is("there is no waste", across.line(5), 0);
        is("and nothing to be put", across.line(7), 0);
    }

    /** A line of 96 cells and so many more, in the storm of the day 9. */
    private static CableShip inStormNearB(int moreCells) {
        CableShip ship = shipIn("cccccccccs");
        ship.make(1, 60000, 0);
        ship.make(1, 60000, 0);
        for (int i = 0; i < 8; i++) {
            ship.lay(12, 0, 0);
            ship.pass(1);
        }
        ship.lay(moreCells, 0, 0);
        ship.pass(1);
        return ship;
    }

    private static void onlyALineThatIsNotBuoyed() {
        promise = 6;
        CableShip ship = shipIn("csss");
        ship.make(1, 2005, 0);
        ship.lay(2, 0, 0);
        ship.pass(1);
        ship.pass(2);
        is("three storms cost as much as one", ship.line(5), 200);
        is("the line", ship.line(0), 1805);
        is("metres to be put", ship.line(7), 200);
        ship.pass(400);
        is("those of 400 days, too", ship.line(0), 1805);
        CableShip again = shipIn("cscs");
        again.make(1, 3005, 0);
        again.lay(2, 0, 0);
        again.pass(2);
        again.takeUp(0);
        again.pass(1);
        is("one that was taken up is buoyed anew", again.line(6), 1);
        is("the waste of both", again.line(5), 400);
        is("metres to be put", again.line(7), 200);
        is("the last cell", again.cell(1, 3), 800);
        is("all is kept", again.isKept(), true);
    }

    private static void noneIfItHasNone() {
        promise = 6;
        CableShip ship = shipIn("csc");
        ship.make(1, 2005, 0);
        ship.pass(1);
        is("a line without metres is buoyed", ship.line(6), 1);
        is("without waste", ship.line(5), 0);
        is("without metres to be put", ship.line(7), 0);
        ship.pass(1);
        is("nothing is laid as long as it is buoyed", ship.lay(1, 0, 0), 0);
        is("takeUp(0)", ship.takeUp(0), 0);
        is("the things of the line", ship.line(2), 0);
        is("the tank", ship.tank(0, 0), 2005);
        is("it is not buoyed then", ship.line(6), 0);
        is("and is laid", ship.lay(2, 0, 0), 2);
    }

    /** Two cells of 2005 metres, of which so many at the end are of another piece. */
    private static CableShip inStormWithEndOf(int metres) {
        CableShip ship = shipIn("cs");
        ship.make(1, 9000, 0);
        ship.make(1, 2005 - metres, 0);
        ship.lay(2, 0, 0);
        ship.pass(1);
        return ship;
    }

    private static void jointsBehindAllThatIsLeft() {
        promise = 6;
        rowIs("with 199 metres at its end", inStormWithEndOf(199), 1805);
        rowIs("with 200 metres at its end", inStormWithEndOf(200), 1805);
        rowIs("with 201 metres at its end", inStormWithEndOf(201), 1804, J, 1);
        CableShip ship = shipIn("cs");
        int[] metres = {9000, 100, 99, 1806};
        for (int each : metres) {
            ship.make(1, each, 0);
        }
        ship.lay(2, 0, 0);
        rowIs("of four pieces", ship, 1806, J, 99, J, 100);
        ship.pass(1);
        rowIs("of four pieces, without two of them", ship, 1805);
        is("the last metre that is left", ship.metre(1804), 301804);
        is("the same anew", ship.metreAnew(1804), 301804);
        fails("the metre behind it", INDEX, () -> ship.metre(1805));
        fails("the same anew", INDEX, () -> ship.metreAnew(1805));
    }

    private static void repeatersBehindAllThatIsLeft() {
        promise = 6;
        CableShip ship = shipIn("cs");
        ship.make(1, 9000, 0);
        ship.lay(1, 0, 0);
        ship.repeater();
        ship.lay(1, 0, 0);
        ship.repeater();
        ship.pass(1);
        rowIs("with two repeaters", ship, 1005, R, 800);
        is("repeaters", ship.line(4), 1);
        CableShip joined = shipIn("cs");
        joined.make(1, 9000, 0);
        joined.make(1, 1805, 0);
        joined.lay(2, 0, 0);
        joined.repeater();
        joined.pass(1);
        rowIs("with a joint, 200 metres and a repeater", joined, 1805);
    }

    private static void faultsInWhatIsLost() {
        promise = 6;
        CableShip ship = shipIn("cs");
        ship.make(1, 9000, 0);
        ship.lay(2, 0, 0);
        ship.fault(SHUNT, 2004);
        ship.fault(BREAK, 1804);
        ship.fault(BREAK, 1805);
        ship.fault(SHUNT, 0);
        ship.pass(1);
        is("two are left", ship.faults(), 2);
        is("the break at the last metre that is left", ship.ofFault(0, 0), BREAK);
        is("the shunt at the first metre", ship.ofFault(1, 0), SHUNT);
        for (int i = 0; i < 2; i++) {
            is("from where it may be", ship.ofFault(i, 1), 0);
            is("to where it may be", ship.ofFault(i, 2), 1805);
        }
        is("a new one may come", ship.fault(BREAK, 1804), 3);
    }

    private static void tensionAtItsBounds() {
        promise = 26;
        int[] perMetre = {12, 9, 6, 3};
        int[] depths = {0, 1, 8, 9, 16, 17, 33, 34, 508, 509, 1011, 1012, 2516, 2517, 5999, 6000};
        CableShip ship = new CableShip();
        for (int i = 0; i < depths.length; i++) {
            ship.sound(i == 0 ? 99 : i, depths[i], 0);
            for (int type = 0; type < 4; type++) {
                is("tension(" + type + ") at " + depths[i], ship.tension(type, i == 0 ? 99 : i),
                    perMetre[type] * depths[i] / 100);
            }
        }
        is("type 0 at 8", ship.tension(0, 2), 0);
        is("type 0 at 9", ship.tension(0, 3), 1);
        is("type 0 at 6000", ship.tension(0, 15), 720);
        is("type 3 at 6000", ship.tension(3, 15), 180);
    }
}
