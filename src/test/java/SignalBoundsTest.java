/** The bounds in what the document says of signal and power: right at each, and right past it. */
public final class SignalBoundsTest extends ShipTestBase {
    public static void main(String[] args) {
        nothingLies();
        signalOfSpansRoundedDown();
        eachSpanByItself();
        wholeYears();
        repeatersUpTo3000();
        aheadOfARepeaterOrAtTheEnd();
        dropsRoundedDown();
        earthInASpan();
        earthAtARepeater();
        earthAtTheEnd();
        fedTogether();
        fedOnlyAtB();
        fedWithAShunt();
        fedWithAShuntAtARepeater();
        fedWithAShuntAtAShore();
        fedWithSeveralShunts();
        aMarginOfAtLeast0();
        allThatWorkingNeeds();
        end();
    }

    private static void nothingLies() {
        promise = 32;
        CableShip ship = new CableShip();
        is("margin() of nothing", ship.margin(), 1500);
        promise = 33;
        is("earth() of nothing", ship.earth(), 0);
        ship.feed(9999, 9999);
        is("earth() of nothing, fed", ship.earth(), 0);
        promise = 34;
        is("isFed() of nothing", ship.isFed(), false);
        promise = 35;
        is("works() of nothing", ship.works(), false);
    }

    // ---- signal

    /** A cell of 1005 metres, of which so many are of another piece. */
    private static CableShip cellOf(int first) {
        CableShip ship = new CableShip();
        ship.make(1, 90000, 0);
        ship.make(1, first, 0);
        ship.lay(1, 0, 0);
        return ship;
    }

    private static void signalOfSpansRoundedDown() {
        promise = 32;
        is("49 and 956 metres", cellOf(49).margin(), 1500 - 0 - 5 - 19);
        is("50 and 955 metres", cellOf(50).margin(), 1500 - 1 - 5 - 19);
        is("55 and 950 metres", cellOf(55).margin(), 1500 - 1 - 5 - 19);
        is("56 and 949 metres", cellOf(56).margin(), 1500 - 1 - 5 - 18);
        is("1005 metres", cellOf(1005).margin(), 1500 - 20);
        is("1 and 1004 metres", cellOf(1).margin(), 1500 - 0 - 5 - 20);
    }

    private static void eachSpanByItself() {
        promise = 32;
        CableShip ship = new CableShip();
        ship.make(1, 90000, 0);
        for (int i = 0; i < 20; i++) {
            ship.make(1, 49, 0);
        }
        ship.lay(1, 0, 0);
        is("things of the line", ship.line(2), 41);
        is("twenty spans of 49 metres and twenty joints", ship.margin(), 1500 - 20 * 5);
        CableShip repeated = new CableShip();
        repeated.make(1, 90000, 0);
        repeated.lay(1, 44, 0);
        is("1049 metres", repeated.margin(), 1500 - 20);
        repeated.lay(1, 0, 0);
        is("2049 metres", repeated.margin(), 1500 - 40);
        repeated.lay(1, 1, 0);
        is("3050 metres", repeated.margin(), 1500 - 61);
        for (int metres = 4999; metres <= 5000; metres++) {
            CableShip ends = new CableShip();
            ends.make(1, 90000, 0);
            ends.make(1, metres, 0);
            ends.lay(5, 0, 0);
            is(metres + " metres and the rest", ends.margin(), 1500 - (metres == 4999 ? 99 : 100) - 5);
        }
    }

    private static void wholeYears() {
        promise = 32;
        CableShip ship = fullLineOfType(1);
        is("on the day 8", ship.margin(), 1500 - 1200 - 5 - 800);
        ship.pass(356);
        is("on the day 364", ship.margin(), 1500 - 1200 - 5 - 800);
        ship.pass(1);
        is("on the day 365", ship.margin(), 1500 - 1212 - 5 - 808);
        ship.pass(364);
        is("on the day 729", ship.margin(), 1500 - 1212 - 5 - 808);
        ship.pass(1);
        is("on the day 730", ship.margin(), 1500 - 1224 - 5 - 816);
        while (ship.day() < 19600) {
            ship.pass(Math.min(400, 19600 - ship.day()));
        }
        ship.pass(109);
        is("on the day 19709", ship.margin(), 1500 - 60000 * 153 / 5000 - 5 - 40005 * 153 / 5000);
        ship.pass(1);
        is("on the day 19710", ship.margin(), 1500 - 60000 * 154 / 5000 - 5 - 40005 * 154 / 5000);
        ship.pass(290);
        is("on the day 20000", ship.margin(), 1500 - 60000 * 154 / 5000 - 5 - 40005 * 154 / 5000);
    }

    /** 60 cells, or 59 that are longer, then a repeater, then 40 that are steep enough to be the weakest. */
    private static CableShip withRepeaterBehind(int cells, int slackCells) {
        CableShip ship = shipIn("ccccccccc");
        for (int i = cells; i < 100; i++) {
            ship.sound(i, i % 2 == 0 ? 1600 : 100, 0);
        }
        ship.make(3, 90000, 0);
        ship.make(3, 80000, 0);
        layAcross(ship, slackCells, cells);
        return ship;
    }

    private static void repeatersUpTo3000() {
        promise = 32;
        int[][] cellsAndSlacks = {{59, 17}, {59, 18}, {60, 0}, {60, 1}};
        int[] firstMetres = {59855, 59905, 60005, 60055};
        int[] signalBehind = {3000, 3000, 3000, 3000 - 1201 + 1200};
        for (int i = 0; i < 4; i++) {
            CableShip ship = withRepeaterBehind(cellsAndSlacks[i][0], cellsAndSlacks[i][1]);
            is("the metres ahead of the repeater", ship.cell(cellsAndSlacks[i][0], 2), firstMetres[i]);
            int end = signalBehind[i];
            for (int thing = 2; thing < ship.line(2); thing++) {
                boolean isSpan = ship.thing(thing, 0) == CableShip.SPAN;
                end -= isSpan ? (ship.thing(thing, 3) - ship.thing(thing, 2) + 1) / 50 : 5;
            }
            is("the margin behind " + firstMetres[i] + " metres", ship.margin(), end - 1500);
            is("the end is the weakest", end < 3000 - firstMetres[i] / 50, true);
        }
        CableShip early = new CableShip();
        early.make(1, 90000, 0);
        early.lay(1, 0, 0);
        early.repeater();
        early.lay(2, 0, 0);
        is("a repeater at 2980", early.margin(), 1500 - 40);
    }

    private static void aheadOfARepeaterOrAtTheEnd() {
        promise = 32;
        CableShip ship = new CableShip();
        ship.make(1, 90000, 0);
        ship.lay(3, 0, 0);
        is("at the end", ship.margin(), 1500 - 60);
        ship.repeater();
        is("ahead of a repeater at the end", ship.margin(), 1500 - 60);
        ship.lay(3, 0, 0);
        is("as little ahead of the repeater as at the end", ship.margin(), 1500 - 60);
        ship.lay(1, 0, 0);
        is("less at the end", ship.margin(), 1500 - 80);
        ship.repeater();
        ship.lay(1, 0, 0);
        is("the least ahead of the second one", ship.margin(), 1500 - 80);
    }

    // ---- power

    private static void dropsRoundedDown() {
        promise = 33;
        earthIs(99, 8, 99 + 899);
        earthIs(99, 9, 1005);
        earthIs(100, 8, 100 + 799);
        earthIs(100, 9, 100 + 899);
        earthIs(100, 10, 1005);
        earthIs(105, 9, 105 + 899);
        earthIs(105, 10, 1005);
        earthIs(106, 8, 106 + 799);
        earthIs(106, 9, 1005);
    }

    private static void earthIs(int first, int fed, int due) {
        CableShip ship = cellOf(first);
        ship.feed(fed, 0);
        is("earth() of " + first + " and " + (1005 - first) + " metres, fed with " + fed, ship.earth(), Math.min(1005, due));
    }

    private static void earthInASpan() {
        promise = 33;
        CableShip ship = cellOf(1005);
        int[][] due = {{0, 99}, {1, 199}, {9, 999}, {10, 1005}, {11, 1005}, {9999, 1005}};
        for (int[] each : due) {
            ship.feed(each[0], 0);
            is("earth() of 1005 metres, fed with " + each[0], ship.earth(), each[1]);
        }
        ship.feed(0, 9999);
        is("what B feeds does not matter", ship.earth(), 99);
        earthIs(99, 0, 99 + 99);
        earthIs(100, 0, 99);
        earthIs(199, 1, 199 + 99);
        earthIs(200, 1, 199);
    }

    private static void earthAtARepeater() {
        promise = 33;
        CableShip ship = new CableShip();
        ship.make(1, 9000, 0);
        ship.lay(1, 0, 0);
        ship.repeater();
        ship.lay(1, 0, 0);
        int[][] due = {{9, 999}, {10, 1005}, {49, 1005}, {50, 1104}, {51, 1204}, {59, 2004}, {60, 2005}};
        for (int[] each : due) {
            ship.feed(each[0], 0);
            is("earth() with a repeater, fed with " + each[0], ship.earth(), each[1]);
        }
    }

    private static void earthAtTheEnd() {
        promise = 33;
        CableShip ship = fullLine();
        int[][] due = {{359, 35999}, {360, 36005}, {399, 36005}, {400, 36104}, {638, 59904}, {639, 60099},
            {758, 71999}, {759, 72005}, {798, 72005}, {799, 72104}, {1078, 100004}, {1079, 100005}, {1080, 100005}};
        for (int[] each : due) {
            ship.feed(each[0], 0);
            is("earth() fed with " + each[0], ship.earth(), each[1]);
        }
        ship.repeater();
        ship.feed(1079, 0);
        is("short of a repeater at the end", ship.earth(), 100005);
        ship.feed(400, 0);
        ship.fault(SHUNT, 50);
        is("as if there were no shunts", ship.earth(), 36104);
    }

    private static void fedIs(String of, CableShip ship, int a, int b, boolean due) {
        ship.feed(a, b);
        is("isFed() " + of + " with " + a + " and " + b, ship.isFed(), due);
    }

    private static void fedTogether() {
        promise = 34;
        CableShip ship = fullLine();
        fedIs("of 1079", ship, 1078, 0, false);
        fedIs("of 1079", ship, 1079, 0, true);
        fedIs("of 1079", ship, 0, 1078, false);
        fedIs("of 1079", ship, 0, 1079, true);
        fedIs("of 1079", ship, 539, 539, false);
        fedIs("of 1079", ship, 539, 540, true);
        fedIs("of 1079", ship, 9999, 9999, true);
        ship.repeater();
        fedIs("with a third repeater", ship, 559, 559, false);
        fedIs("with a third repeater", ship, 560, 559, true);
        ship.fault(BREAK, 0);
        fedIs("with a break", ship, 560, 559, true);
    }

    private static void fedOnlyAtB() {
        promise = 34;
        CableShip ship = shipIn("ccccccccc");
        ship.make(1, 60000, 0);
        ship.make(1, 60000, 0);
        ship.feed(9999, 9999);
        for (int i = 0; i < 8; i++) {
            ship.lay(12, 0, 0);
            ship.pass(1);
        }
        ship.lay(3, 0, 0);
        is("isFed() with 99 cells", ship.isFed(), false);
        is("works() with 99 cells", ship.works(), false);
        ship.lay(1, 0, 0);
        is("isFed() with 100 cells", ship.isFed(), true);
    }

    private static CableShip withShunts(int... places) {
        CableShip ship = fullLine();
        for (int each : places) {
            ship.fault(SHUNT, each);
        }
        return ship;
    }

    private static void fedWithAShunt() {
        promise = 34;
        CableShip ship = withShunts(1000);
        fedIs("with a shunt at 1000", ship, 9, 9999, false);
        fedIs("with a shunt at 1000", ship, 10, 9999, true);
        fedIs("with a shunt at 1000", ship, 9999, 350 + 40 + 239 + 120 + 40 + 280 - 1, false);
        fedIs("with a shunt at 1000", ship, 10, 350 + 40 + 239 + 120 + 40 + 280, true);
        CableShip ahead = withShunts(999);
        fedIs("with a shunt at 999", ahead, 8, 9999, false);
        fedIs("with a shunt at 999", ahead, 9, 9999, true);
        CableShip six = withShunts(1005);
        fedIs("with 35000 metres behind it", six, 10, 350 + 719 - 1, false);
        fedIs("with 35000 metres behind it", six, 10, 350 + 719, true);
        CableShip five = withShunts(1006);
        fedIs("with 34999 metres behind it", five, 10, 349 + 719 - 1, false);
        fedIs("with 34999 metres behind it", five, 10, 349 + 719, true);
    }

    private static void fedWithAShuntAtARepeater() {
        promise = 34;
        CableShip at = withShunts(36005);
        fedIs("with a repeater right ahead of the shunt", at, 399, 9999, false);
        fedIs("with a repeater right ahead of the shunt", at, 400, 9999, true);
        fedIs("with a repeater right ahead of the shunt", at, 400, 678, false);
        fedIs("with a repeater right ahead of the shunt", at, 400, 679, true);
        CableShip ahead = withShunts(36004);
        fedIs("with a repeater a metre behind the shunt", ahead, 359, 9999, false);
        fedIs("with a repeater a metre behind the shunt", ahead, 360, 9999, true);
        fedIs("with a repeater a metre behind the shunt", ahead, 360, 718, false);
        fedIs("with a repeater a metre behind the shunt", ahead, 360, 719, true);
    }

    private static void fedWithAShuntAtAShore() {
        promise = 34;
        CableShip first = withShunts(0);
        fedIs("with a shunt at the first metre", first, 0, 1078, false);
        fedIs("with a shunt at the first metre", first, 0, 1079, true);
        CableShip last = withShunts(100004);
        fedIs("with a shunt at the last metre", last, 1077, 0, false);
        fedIs("with a shunt at the last metre", last, 1078, 0, true);
        last.repeater();
        fedIs("and a repeater behind it", last, 1078, 39, false);
        fedIs("and a repeater behind it", last, 1078, 40, true);
        CableShip hundred = withShunts(99905);
        fedIs("with 100 metres behind the shunt", hundred, 9999, 0, false);
        fedIs("with 100 metres behind the shunt", hundred, 9999, 1, true);
        CableShip less = withShunts(99906);
        fedIs("with 99 metres behind the shunt", less, 9999, 0, true);
    }

    private static void fedWithSeveralShunts() {
        promise = 34;
        CableShip ship = withShunts(50000, 90005, 20000);
        fedIs("of which the first one by place counts", ship, 199, 9999, false);
        fedIs("of which the first one by place counts", ship, 200, 9999, true);
        fedIs("of which the last one by place counts", ship, 200, 99, false);
        fedIs("of which the last one by place counts", ship, 200, 100, true);
        ship.fault(BREAK, 10);
        fedIs("with a break ahead of them", ship, 200, 100, true);
        CableShip same = withShunts(90005, 90005);
        fedIs("with two at one place", same, 360 + 40 + 239 + 120 + 40 + 180 - 1, 100, false);
        fedIs("with two at one place", same, 360 + 40 + 239 + 120 + 40 + 180, 100, true);
        fedIs("with two at one place", same, 979, 99, false);
    }

    // ---- working

    /** The first 75 cells lie in one span ahead of a repeater. */
    private static CableShip ofMarginAround0(int slackCells) {
        CableShip ship = shipIn("ccccccccc");
        ship.make(1, 60000, 0);
        ship.make(1, 90000, 0);
        layAcross(ship, slackCells, 75);
        ship.feed(9999, 0);
        return ship;
    }

    private static void aMarginOfAtLeast0() {
        promise = 35;
        CableShip none = ofMarginAround0(0);
        is("75005 metres ahead of a repeater", none.margin(), 0);
        is("works() with a margin of 0", none.works(), true);
        CableShip less = ofMarginAround0(1);
        is("75055 metres ahead of a repeater", less.margin(), -1);
        is("works() with a margin of -1", less.works(), false);
        is("though it is fed", less.isFed(), true);
    }

    private static void allThatWorkingNeeds() {
        promise = 35;
        CableShip ship = fullLine();
        ship.feed(1000, 78);
        is("works() fed with too little by 1", ship.works(), false);
        ship.feed(1000, 79);
        is("works() fed with just enough", ship.works(), true);
        ship.fault(SHUNT, 99906);
        ship.feed(1077, 9999);
        is("works() with a shunt, fed with too little from A by 1", ship.works(), false);
        ship.feed(1078, 0);
        is("works() with a shunt, fed with just enough from A", ship.works(), true);
        ship.fault(BREAK, 0);
        is("works() with a break at the first metre", ship.works(), false);
        ship.mend(0, 0);
        is("works() when that is mended, with 200 metres more", ship.works(), false);
        ship.feed(1080, 0);
        is("works() when that is mended, fed with just enough", ship.works(), true);
        ship.fault(BREAK, ship.line(0) - 1);
        is("works() with a break at the last metre", ship.works(), false);
    }
}
