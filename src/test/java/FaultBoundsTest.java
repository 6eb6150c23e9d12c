/** The bounds in what the document says of faults, nets and measuring: right at each, and right past it. */
public final class FaultBoundsTest extends ShipTestBase {
    public static void main(String[] args) {
        atMost4Faults();
        inTheLineAsItLies();
        netOverADepthBelow300();
        netOverATypeOf2Or3();
        netInTheMiddle();
        netWhereNothingIs();
        netWithFourFaults();
        nothingToFind();
        onlyAtB();
        theEchoErrs();
        theVoltageErrsTwice();
        atLeast0();
        theDrawAtItsBounds();
        fromB();
        theNearestBreak();
        theNearestOfEitherKind();
        ofTwoAtOnePlace();
        noRepeaterOnThisSide();
        voltageThroughRepeaters();
        eachMeasuringNarrows();
        narrowedFromB();
        neverOutsideOfTheLine();
        onlyTheOneThatIsFound();
        atFirstFrom0ToTheEnd();
        beginsAnewWhenMended();
        beginsAnewWhenBuoyedAndTakenUp();
        doesNotBeginAnewOtherwise();
        end();
    }

    /** A line of 100005 metres to B without a repeater, with these faults: kind, place, kind, place .. */
    private static CableShip with(int... kindsAndPlaces) {
        return faulty(fullLineOfType(1), kindsAndPlaces);
    }

    private static CableShip faulty(CableShip ship, int... kindsAndPlaces) {
        for (int i = 0; i < kindsAndPlaces.length; i += 2) {
            ship.fault(kindsAndPlaces[i], kindsAndPlaces[i + 1]);
        }
        return ship;
    }

    private static void rangeIs(String when, CableShip ship, int fault, int from, int to) {
        is("from where the fault " + fault + " may be " + when, ship.ofFault(fault, 1), from);
        is("to where the fault " + fault + " may be " + when, ship.ofFault(fault, 2), to);
    }

    // ---- that come

    private static void atMost4Faults() {
        promise = 12;
        CableShip ship = fullLine();
        for (int i = 1; i <= 4; i++) {
            is("fault " + i, ship.fault(i % 2, 100 * i), i);
            promise = 37;
            is("faults()", ship.faults(), i);
            promise = 12;
        }
        fails("a fifth fault", STATE, () -> ship.fault(SHUNT, 0));
        is("faults()", ship.faults(), 4);
        is("the first one's kind", ship.ofFault(0, 0), BREAK);
        is("the last one's kind", ship.ofFault(3, 0), SHUNT);
        is("one is mended", ship.mend(0, 0), 4);
        is("faults()", ship.faults(), 0);
        is("another one may come", ship.fault(SHUNT, 0), 1);
    }

    private static void inTheLineAsItLies() {
        promise = 12;
        CableShip ship = shipIn("cs");
        ship.make(1, 9000, 0);
        fails("place 0 of nothing", ARGUMENT, () -> ship.fault(SHUNT, 0));
        ship.lay(2, 0, 0);
        fails("place -1", ARGUMENT, () -> ship.fault(SHUNT, -1));
        is("place 0", ship.fault(SHUNT, 0), 1);
        is("place 2004 of 2005", ship.fault(SHUNT, 2004), 2);
        fails("place 2005 of 2005", ARGUMENT, () -> ship.fault(SHUNT, 2005));
        ship.pass(1);
        is("the one at the end is lost", ship.faults(), 1);
        is("place 1804 of 1805", ship.fault(SHUNT, 1804), 2);
        fails("place 1805 of 1805", ARGUMENT, () -> ship.fault(SHUNT, 1805));
    }

    private static CableShip netted(int type, int depth) {
        CableShip ship = new CableShip();
        ship.make(type, 9000, 0);
        ship.sound(0, depth, 0);
        ship.lay(1, 0, 0);
        return ship;
    }

    private static void netOverADepthBelow300() {
        promise = 13;
        int[] depths = {0, 299, 300, 301, 6000};
        for (int depth : depths) {
            CableShip ship = netted(3, depth);
            ship.make(3, 90000, 0);
            ship.lay(1, 0, 0);
            is("net(0) at " + depth, ship.net(0), depth < 300);
            is("faults() at " + depth, ship.faults(), depth < 300 ? 1 : 0);
        }
    }

    private static void netOverATypeOf2Or3() {
        promise = 13;
        for (int type = 0; type < 4; type++) {
            CableShip ship = netted(type, 299);
            is("net(0) over type " + type, ship.net(0), type >= 2);
            is("faults() of type " + type, ship.faults(), type >= 2 ? 1 : 0);
        }
        CableShip ship = netted(2, 299);
        ship.net(0);
        is("the kind", ship.ofFault(0, 0), BREAK);
        rangeIs("behind a net", ship, 0, 0, ship.line(0));
    }

    private static void netInTheMiddle() {
        promise = 13;
        is("type 2 up to the place 502 of 1005", netOver(503, 0), true);
        is("type 2 up to the place 501 of 1005", netOver(502, 0), false);
        is("type 2 up to the place 502 of 1006", netOver(503, 1), false);
        is("type 2 up to the place 503 of 1006", netOver(504, 1), true);
        CableShip second = new CableShip();
        second.make(1, 9000, 0);
        second.make(2, 1005 + 501, 0);
        second.lay(2, 0, 0);
        is("type 2 up to the place 500 of 1000", second.net(1), true);
        CableShip ahead = new CableShip();
        ahead.make(1, 9000, 0);
        ahead.make(2, 1005 + 500, 0);
        ahead.lay(2, 0, 0);
        is("type 2 up to the place 499 of 1000", ahead.net(1), false);
        is("type 2 in all of the cell ahead", ahead.net(0), true);
        CableShip lost = shipIn("cs");
        lost.make(1, 9000, 0);
        lost.make(2, 1005 + 401, 0);
        lost.lay(2, 0, 0);
        lost.pass(1);
        is("type 2 up to the place 400 of 800", lost.net(1), true);
        CableShip place = fullLineOfType(2);
        place.net(99);
        is("the place in the last cell", place.measure(true, false, 12), 500);
        place.net(0);
        is("the place in the first cell", place.measure(false, false, 12), 502);
    }

    private static boolean netOver(int first, int slack) {
        CableShip ship = new CableShip();
        ship.make(1, 9000, 0);
        ship.make(2, first, 0);
        ship.lay(1, slack, 0);
        return ship.net(0);
    }

    private static void netWhereNothingIs() {
        promise = 13;
        CableShip ship = new CableShip();
        is("net(0) of nothing", ship.net(0), false);
        is("net(99) of nothing", ship.net(99), false);
        ship.make(3, 9000, 0);
        ship.lay(2, 0, 0);
        is("net over the last cell that is laid", ship.net(1), true);
        is("net over the first one that is not", ship.net(2), false);
        is("faults()", ship.faults(), 1);
        CableShip full = fullLineOfType(3);
        is("net over the last cell", full.net(99), true);
    }

    private static void netWithFourFaults() {
        promise = 13;
        CableShip ship = netted(2, 299);
        for (int i = 0; i < 3; i++) {
            ship.fault(SHUNT, i);
        }
        is("net as the fourth fault", ship.net(0), true);
        fails("net as a fifth fault", STATE, () -> ship.net(0));
        fails("net that would break nothing", STATE, () -> ship.net(1));
        fails("net over no cell", ARGUMENT, () -> ship.net(100));
        is("faults()", ship.faults(), 4);
    }

    // ---- that are measured

    private static void nothingToFind() {
        promise = 14;
        CableShip ship = with();
        is("an echo without faults", ship.measure(false, false, 0), NONE);
        is("an echo from B without faults", ship.measure(true, false, 0), NONE);
        is("a voltage without faults", ship.measure(false, true, 0), NONE);
        is("a voltage from B without faults", ship.measure(true, true, 0), NONE);
        ship.fault(SHUNT, 50000);
        is("an echo of a shunt", ship.measure(false, false, 0), NONE);
        is("an echo of a shunt from B", ship.measure(true, false, 0), NONE);
        rangeIs("when nothing is found", ship, 0, 0, 100005);
    }

    private static void onlyAtB() {
        promise = 14;
        CableShip ship = shipIn("ccccccccc");
        ship.make(1, 60000, 0);
        ship.make(1, 60000, 0);
        fails("measure of nothing", STATE, () -> ship.measure(false, true, 0));
        for (int i = 0; i < 8; i++) {
            ship.lay(12, 0, 0);
            ship.pass(1);
        }
        ship.lay(3, 0, 0);
        ship.fault(BREAK, 5);
        fails("measure with 99 cells", STATE, () -> ship.measure(false, true, 0));
        fails("measure from B with 99 cells", STATE, () -> ship.measure(true, false, 0));
        ship.lay(1, 0, 0);
        is("measure with 100 cells", ship.measure(false, false, 15), 10);
    }

    private static void echoIs(int place, int draw, int due) {
        is("an echo of " + place + " with " + draw, with(BREAK, place).measure(false, false, draw), due);
    }

    private static void theEchoErrs() {
        promise = 14;
        echoIs(199, 0, 199 - 10);
        echoIs(199, 10, 199);
        echoIs(199, 20, 199 + 10);
        echoIs(199, 21, 199 - 10);
        echoIs(200, 0, 200 - 11);
        echoIs(200, 22, 200 + 11);
        echoIs(200, 23, 200 - 11);
        echoIs(399, 22, 399 + 11);
        echoIs(400, 24, 400 + 12);
        echoIs(400, 25, 400 - 12);
        echoIs(100004, 0, 100004 - 510);
        echoIs(100004, 1020, 100004 + 510);
        echoIs(100004, 1021, 100004 - 510);
    }

    private static void voltageIs(int place, int draw, int due) {
        is("a voltage of " + place + " with " + draw, with(SHUNT, place).measure(false, true, draw), due);
    }

    private static void theVoltageErrsTwice() {
        promise = 14;
        voltageIs(199, 0, 199 - 20);
        voltageIs(199, 20, 199);
        voltageIs(199, 40, 199 + 20);
        voltageIs(199, 41, 199 - 20);
        voltageIs(200, 0, 200 - 22);
        voltageIs(200, 44, 200 + 22);
        voltageIs(200, 45, 200 - 22);
        voltageIs(300, 44, 300 + 22);
        voltageIs(100004, 0, 100004 - 1020);
        voltageIs(100004, 2040, 100004 + 1020);
        voltageIs(100004, 2041, 100004 - 1020);
    }

    private static void atLeast0() {
        promise = 14;
        echoIs(0, 0, 0);
        echoIs(0, 9, 0);
        echoIs(0, 10, 0);
        echoIs(0, 11, 1);
        echoIs(0, 20, 10);
        echoIs(0, 21, 0);
        echoIs(9, 0, 0);
        echoIs(9, 1, 0);
        echoIs(9, 2, 1);
        echoIs(10, 0, 0);
        echoIs(11, 0, 1);
        voltageIs(19, 0, 0);
        voltageIs(20, 0, 0);
        voltageIs(21, 0, 1);
    }

    private static void theDrawAtItsBounds() {
        promise = 14;
        CableShip ship = with(BREAK, 199);
        fails("draw -1", ARGUMENT, () -> ship.measure(false, false, -1));
        fails("draw 65537", ARGUMENT, () -> ship.measure(false, false, 65537));
        rangeIs("behind wrong draws", ship, 0, 0, 100005);
        is("draw 0", ship.measure(false, false, 0), 189);
        is("draw 65536", ship.measure(false, false, 65536), 189 + 65536 % 21);
        is("draw 65536 by voltage", ship.measure(false, true, 65536), 179 + 65536 % 41);
    }

    private static void fromB() {
        promise = 14;
        is("the last metre", with(BREAK, 100004).measure(true, false, 10), 1);
        is("the first metre", with(BREAK, 0).measure(true, false, 510), 100005);
        is("the first metre, erring most", with(BREAK, 0).measure(true, false, 1020), 100515);
        is("the first metre, erring least", with(BREAK, 0).measure(true, false, 1021), 100005 - 510);
        is("199 metres away", with(BREAK, 100005 - 199).measure(true, false, 20), 209);
        is("199 metres away, past the remainder", with(BREAK, 100005 - 199).measure(true, false, 21), 189);
        is("200 metres away", with(BREAK, 100005 - 200).measure(true, false, 22), 211);
        is("200 metres away by voltage", with(SHUNT, 100005 - 200).measure(true, true, 44), 222);
        is("the last metre, below 0", with(BREAK, 100004).measure(true, false, 8), 0);
    }

    private static void theNearestBreak() {
        promise = 14;
        CableShip ship = with(BREAK, 3000, BREAK, 2000, SHUNT, 1000, BREAK, 2001);
        is("from A", ship.measure(false, false, 20), 2000);
        is("from B", ship.measure(true, false, 495), 97005);
        CableShip only = with(SHUNT, 1000, BREAK, 50000, SHUNT, 99000);
        is("the only one from A", only.measure(false, false, 260), 50000);
        is("the only one from B", only.measure(true, false, 260), 50005);
    }

    private static void theNearestOfEitherKind() {
        promise = 14;
        CableShip ship = with(BREAK, 3000, SHUNT, 1000, BREAK, 90000, SHUNT, 99000);
        is("a shunt from A", ship.measure(false, true, 30), 1000);
        is("a shunt from B", ship.measure(true, true, 30), 1005);
        CableShip breaks = with(SHUNT, 3000, BREAK, 1000, SHUNT, 90000, BREAK, 99000);
        is("a break from A", breaks.measure(false, true, 30), 1000);
        is("a break from B", breaks.measure(true, true, 30), 1005);
    }

    private static void ofTwoAtOnePlace() {
        promise = 14;
        CableShip ship = with(BREAK, 1000, BREAK, 1000, BREAK, 99005, BREAK, 99005);
        ship.measure(false, false, 15);
        rangeIs("found from A", ship, 0, 983, 1017);
        rangeIs("not found from A", ship, 1, 0, 100005);
        ship.measure(true, false, 15);
        rangeIs("found from B", ship, 2, 99005 - 17, 99005 + 17);
        rangeIs("not found from B", ship, 3, 0, 100005);
    }

    private static void noRepeaterOnThisSide() {
        promise = 14;
        is("a metre ahead of the first repeater, from A", faulty(fullLine(), BREAK, 36004).measure(false, false, 190), 36004);
        is("right behind the first repeater, from A", faulty(fullLine(), BREAK, 36005).measure(false, false, 190), NONE);
        is("a metre ahead of the last repeater, from B", faulty(fullLine(), BREAK, 72004).measure(true, false, 150), NONE);
        is("right behind the last repeater, from B", faulty(fullLine(), BREAK, 72005).measure(true, false, 150), 28000);
        is("between both, from A", faulty(fullLine(), BREAK, 50000).measure(false, false, 150), NONE);
        is("between both, from B", faulty(fullLine(), BREAK, 50000).measure(true, false, 150), NONE);
        CableShip far = faulty(fullLine(), BREAK, 50000, BREAK, 36004);
        is("the nearer one of two, from A", far.measure(false, false, 190), 36004);
        is("the nearer one of two, from B", far.measure(true, false, 190), NONE);
        CableShip end = faulty(fullLineOfType(1), BREAK, 100004, BREAK, 3);
        end.repeater();
        is("a repeater at B, from B", end.measure(true, false, 10), NONE);
        is("a repeater at B, from A", end.measure(false, false, 10), 3);
        rangeIs("when a repeater is on this side", end, 0, 0, 100005);
    }

    private static void voltageThroughRepeaters() {
        promise = 14;
        is("right behind the first repeater, from A", faulty(fullLine(), SHUNT, 36005).measure(false, true, 380), 36005);
        is("a metre ahead of the last repeater, from B", faulty(fullLine(), BREAK, 72004).measure(true, true, 300), 28001);
    }

    // ---- where they may be

    private static void measuredAt(int place, boolean voltage, int told, int width) {
        CableShip ship = with(voltage ? SHUNT : BREAK, place);
        int error = (place / 200 + 10) * (voltage ? 2 : 1);
        is("what is told of " + place, ship.measure(false, voltage, told - place + error), told);
        rangeIs("of " + place + ", told " + told, ship, 0, Math.max(0, told - width), told + width);
    }

    private static void eachMeasuringNarrows() {
        promise = 36;
        measuredAt(185, false, 189, 12);
        measuredAt(185, false, 190, 13);
        measuredAt(380, false, 379, 13);
        measuredAt(380, false, 380, 14);
        measuredAt(185, true, 189, 24);
        measuredAt(185, true, 190, 26);
        measuredAt(380, true, 379, 26);
        measuredAt(380, true, 380, 28);
        measuredAt(50000, false, 50000, 275);
        measuredAt(50000, true, 50000, 550);
        CableShip ship = with(BREAK, 50000);
        ship.measure(false, false, 0);
        rangeIs("told 49740", ship, 0, 49740 - 273, 49740 + 273);
        ship.measure(false, false, 520);
        rangeIs("told 50260, too", ship, 0, 50260 - 276, 49740 + 273);
        ship.measure(false, false, 260);
        rangeIs("told 50000, which tells nothing new", ship, 0, 50260 - 276, 49740 + 273);
        ship.measure(false, true, 0);
        rangeIs("told 49480 by voltage, which tells nothing new", ship, 0, 50260 - 276, 49740 + 273);
        CableShip wide = with(BREAK, 50000);
        wide.measure(false, true, 520);
        rangeIs("told 50000 by voltage", wide, 0, 50000 - 550, 50000 + 550);
        wide.measure(false, false, 260);
        rangeIs("told 50000 by an echo, too", wide, 0, 50000 - 275, 50000 + 275);
    }

    private static void narrowedFromB() {
        promise = 36;
        CableShip ship = with(BREAK, 99819);
        is("189 metres from B", ship.measure(true, false, 13), 189);
        rangeIs("told 189 from B", ship, 0, 99816 - 12, 99816 + 12);
        is("190 metres from B", ship.measure(true, false, 14), 190);
        rangeIs("told 190 from B, too", ship, 0, 99816 - 12, 99815 + 13);
        CableShip voltage = with(SHUNT, 99819);
        is("190 metres from B by voltage", voltage.measure(true, true, 24), 190);
        rangeIs("told 190 from B by voltage", voltage, 0, 99815 - 26, 99815 + 26);
        CableShip both = with(BREAK, 50000);
        both.measure(false, false, 520);
        both.measure(true, false, 520);
        rangeIs("told 50260 from A and 50265 from B", both, 0, 50260 - 276, 49740 + 276);
    }

    private static void neverOutsideOfTheLine() {
        promise = 36;
        CableShip first = with(BREAK, 0);
        first.measure(false, false, 0);
        rangeIs("told 0", first, 0, 0, 12);
        first.measure(true, false, 1020);
        rangeIs("told 100515 from B", first, 0, 0, 12);
        CableShip last = with(BREAK, 100004);
        last.measure(true, false, 0);
        rangeIs("told 0 from B", last, 0, 100005 - 12, 100005);
        last.measure(false, false, 1020);
        rangeIs("told 100514", last, 0, 100005 - 12, 100005);
    }

    private static void onlyTheOneThatIsFound() {
        promise = 36;
        CableShip ship = with(SHUNT, 70000, BREAK, 20000, BREAK, 40000, SHUNT, 10000);
        ship.measure(false, false, 110);
        rangeIs("an echo found another", ship, 0, 0, 100005);
        rangeIs("an echo of 20000", ship, 1, 20000 - 117, 20000 + 117);
        rangeIs("an echo found another", ship, 2, 0, 100005);
        rangeIs("an echo found another", ship, 3, 0, 100005);
        ship.measure(true, true, 2 * (30005 / 200 + 10));
        rangeIs("a voltage of 30005 from B", ship, 0, 70000 - 2 * 169, 70000 + 2 * 169);
        rangeIs("a voltage found another", ship, 2, 0, 100005);
        rangeIs("a voltage found another", ship, 3, 0, 100005);
    }

    private static void atFirstFrom0ToTheEnd() {
        promise = 36;
        CableShip ship = new CableShip();
        ship.make(1, 9000, 0);
        ship.lay(1, 0, 0);
        ship.fault(SHUNT, 0);
        ship.fault(SHUNT, 1004);
        rangeIs("at first", ship, 0, 0, 1005);
        rangeIs("at first", ship, 1, 0, 1005);
        ship.lay(1, 0, 0);
        ship.fault(BREAK, 1005);
        rangeIs("at first, in a longer line", ship, 2, 0, 2005);
    }

    private static void beginsAnewWhenMended() {
        promise = 36;
        CableShip ship = with(BREAK, 20000, SHUNT, 10000, BREAK, 90000);
        ship.measure(false, false, 0);
        ship.measure(false, true, 0);
        ship.measure(true, false, 0);
        is("none is gone", ship.mend(50, 0), 0);
        for (int i = 0; i < 3; i++) {
            rangeIs("when another place is mended", ship, i, 0, 100205);
        }
    }

    private static void beginsAnewWhenBuoyedAndTakenUp() {
        promise = 36;
        CableShip ship = shipIn("ccsc");
        ship.make(1, 9000, 0);
        ship.lay(1, 0, 0);
        ship.fault(SHUNT, 0);
        ship.lay(1, 0, 0);
        rangeIs("of 1005 metres", ship, 0, 0, 1005);
        ship.pass(2);
        rangeIs("when buoyed with 1805 metres", ship, 0, 0, 1805);
        ship.pass(1);
        ship.takeUp(0);
        rangeIs("when taken up with 2005 metres", ship, 0, 0, 2005);
    }

    private static void doesNotBeginAnewOtherwise() {
        promise = 36;
        CableShip ship = with(BREAK, 50000);
        ship.measure(false, false, 260);
        ship.pass(400);
        ship.fault(SHUNT, 4);
        ship.feed(100, 100);
        ship.repeater();
        rangeIs("when days pass and another one comes", ship, 0, 50000 - 275, 50000 + 275);
        fails("mend from an empty tank", STATE, () -> ship.mend(0, 2));
        rangeIs("when mending is refused", ship, 0, 50000 - 275, 50000 + 275);
    }
}
