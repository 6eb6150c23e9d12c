/** Each promise by itself: ordinary inputs, the edges that the document names, and wrong inputs. */
public final class PromisesTest extends ShipTestBase {
    public static void main(String[] args) {
        newObject();
        sound();
        wreck();
        crossing();
        weather();
        pass();
        make();
        lay();
        layByRules();
        repeater();
        takeUp();
        takeUpByRules();
        feed();
        fault();
        net();
        measure();
        mend();
        mendByRules();
        mendNextToRepeaters();
        link();
        dead();
        demand();
        restore();
        way();
        isLit();
        day();
        waves();
        canWork();
        cell();
        tension();
        tank();
        line();
        thing();
        metre();
        metreAnew();
        margin();
        earth();
        isFed();
        works();
        ofFault();
        faults();
        isKept();
        end();
    }

    // ---- the promises

    private static void newObject() {
        promise = 1;
        CableShip ship = new CableShip();
        for (int i = 0; i < 8; i++) {
            is("line(" + i + ")", ship.line(i), 0);
        }
        for (int i = 0; i < 100; i++) {
            is("cell(" + i + ", 0)", ship.cell(i, 0), 100);
            is("crossing(" + i + ", 0)", ship.crossing(i, 0), 0);
            is("wreck(" + i + ", false)", ship.wreck(i, false), false);
        }
        for (int i = 0; i < 3; i++) {
            is("tank metres", ship.tank(i, 0), 0);
            is("tank pieces", ship.tank(i, 1), 0);
        }
        is("day()", ship.day(), 0);
        is("waves()", ship.waves(), 0);
        is("canWork()", ship.canWork(), true);
        is("faults()", ship.faults(), 0);
        is("link(2, 3, 1)", ship.link(2, 3, 1), 1);
        is("the constants", CableShip.NONE == -1 && CableShip.SPAN == 0 && CableShip.JOINT == 1
            && CableShip.REPEATER == 2 && CableShip.SHUNT == 0 && CableShip.BREAK == 1, true);
    }

    private static void sound() {
        promise = 2;
        CableShip ship = new CableShip();
        is("a first sounding, however bad", ship.sound(7, 6000, 500), 6000);
        is("one that errs less", ship.sound(7, 0, 20), 0);
        is("one that errs more", ship.sound(7, 300, 21), 0);
        is("one that errs as much, but is later", ship.sound(7, 400, 20), 400);
        is("one that does not err", ship.sound(7, 500, 0), 500);
        is("another cell", ship.cell(8, 0), 100);
        fails("sound(-1)", ARGUMENT, () -> ship.sound(-1, 0, 0));
        fails("sound(100)", ARGUMENT, () -> ship.sound(100, 0, 0));
        fails("depth -1", ARGUMENT, () -> ship.sound(0, -1, 0));
        fails("depth 6001", ARGUMENT, () -> ship.sound(0, 6001, 0));
        fails("error -1", ARGUMENT, () -> ship.sound(0, 0, -1));
        fails("error 501", ARGUMENT, () -> ship.sound(0, 0, 501));
        ship.make(1, 9000, 0);
        ship.lay(2, 0, 0);
        fails("a laid cell", STATE, () -> ship.sound(1, 50, 0));
        fails("a laid cell and a wrong depth", ARGUMENT, () -> ship.sound(1, -50, 0));
        is("what the laid cell kept", ship.cell(1, 0), 100);
        is("the next cell", ship.sound(2, 50, 500), 50);
    }

    private static void wreck() {
        promise = 3;
        CableShip ship = new CableShip();
        is("at first", ship.wreck(99, true), false);
        is("again", ship.wreck(99, true), true);
        is("away", ship.wreck(99, false), true);
        is("then", ship.wreck(99, false), false);
        fails("wreck(100)", ARGUMENT, () -> ship.wreck(100, true));
        fails("wreck(-1)", ARGUMENT, () -> ship.wreck(-1, true));
        ship.make(1, 9000, 0);
        ship.wreck(2, true);
        is("cells as far as the wreck", ship.lay(5, 0, 0), 2);
        ship.wreck(2, false);
        is("cells without the wreck", ship.lay(5, 0, 0), 5);
        is("a wreck in a laid cell", ship.wreck(3, true), false);
    }

    private static void crossing() {
        promise = 4;
        CableShip ship = new CableShip();
        is("at first", ship.crossing(0, 1), 0);
        is("without a consent", ship.crossing(0, 2), 1);
        is("with one", ship.crossing(0, 0), 2);
        fails("what 3", ARGUMENT, () -> ship.crossing(0, 3));
        fails("what -1", ARGUMENT, () -> ship.crossing(0, -1));
        fails("cell 100", ARGUMENT, () -> ship.crossing(100, 0));
        fails("cell -1", ARGUMENT, () -> ship.crossing(-1, 0));
        is("after wrong ones", ship.crossing(0, 0), 0);
        ship.make(1, 9000, 0);
        ship.crossing(1, 1);
        is("cells as far as the crossing", ship.lay(2, 0, 0), 1);
        ship.crossing(1, 2);
        is("cells with a consent", ship.lay(2, 0, 0), 2);
    }

    private static void weather() {
        promise = 5;
        CableShip ship = new CableShip();
        is("weather(12345)", ship.weather(12345), 5);
        is("weather(0)", ship.weather(0), 0);
        is("weather(65536)", ship.weather(65536), 6);
        is("waves()", ship.waves(), 6);
        fails("seed -1", ARGUMENT, () -> ship.weather(-1));
        fails("seed 65537", ARGUMENT, () -> ship.weather(65537));
        is("a storm on the day 0", ship.weather(9), 9);
        is("which buoys nothing", ship.line(6), 0);
        ship.pass(1);
        fails("after a day", STATE, () -> ship.weather(0));
        fails("after a day, and a wrong seed", ARGUMENT, () -> ship.weather(-1));
    }

    private static void pass() {
        promise = 6;
        CableShip ship = new CableShip();
        is("pass(1)", ship.pass(1), 1);
        is("pass(399)", ship.pass(399), 400);
        fails("pass(0)", ARGUMENT, () -> ship.pass(0));
        fails("pass(401)", ARGUMENT, () -> ship.pass(401));
        for (int i = 0; i < 48; i++) {
            ship.pass(400);
        }
        is("the day", ship.day(), 19600);
        ship.pass(399);
        fails("pass(2) to 20001", STATE, () -> ship.pass(2));
        fails("pass(401) there", ARGUMENT, () -> ship.pass(401));
        is("pass(1) to 20000", ship.pass(1), 20000);
        fails("pass(1) to 20001", STATE, () -> ship.pass(1));
        passToStorm();
    }

    private static void passToStorm() {
        CableShip ship = shipIn("chsc");
        ship.make(1, 1500, 0);
        ship.make(2, 1100, 0);
        ship.lay(1, 0, 0);
        ship.repeater();
        ship.pass(1);
        is("high waves do not buoy", ship.line(6), 0);
        ship.pass(2);
        is("a storm in the midst of the days buoys", ship.line(6), 1);
        is("200 metres are to be put", ship.line(7), 200);
        is("200 metres are waste", ship.line(5), 200);
        is("the line", ship.line(0), 805);
        is("the repeater at the end is lost", ship.line(4), 0);
        is("the cell stays laid", ship.line(1), 1);
        is("metres in the cell", ship.cell(0, 3), 805);
        CableShip other = shipIn("cs");
        other.pass(1);
        is("an empty line is buoyed, too", other.line(6), 1);
        is("without metres", other.line(7), 0);
        CableShip joined = shipIn("cs");
        joined.make(1, 3000, 0);
        joined.make(2, 1805, 0);
        joined.lay(2, 0, 0);
        rowIs("before the storm", joined, 1805, J, 200);
        joined.fault(1, 1805);
        joined.fault(0, 1804);
        joined.fault(1, 1805);
        joined.pass(1);
        rowIs("without the joint behind all that is left", joined, 1805);
        is("a fault in what is lost goes with it", joined.faults(), 1);
        is("the other one stays", joined.ofFault(0, 0), CableShip.SHUNT);
        is("it may be as far as the end", joined.ofFault(0, 2), 1805);
        CableShip full = fullLine();
        full.pass(400);
        is("a line that lies at B is not buoyed", full.line(6), 0);
        is("and keeps its metres", full.line(0), 100005);
    }

    private static void make() {
        promise = 7;
        CableShip ship = new CableShip();
        is("the first piece", ship.make(0, 1, 0), 0);
        is("the second piece", ship.make(3, 90000, 2), 1);
        is("on top of another", ship.make(2, 5, 0), 2);
        is("the top of the tank 0", ship.tank(0, 3), 2);
        fails("type 4", ARGUMENT, () -> ship.make(4, 1, 0));
        fails("type -1", ARGUMENT, () -> ship.make(-1, 1, 0));
        fails("0 metres", ARGUMENT, () -> ship.make(0, 0, 0));
        fails("90001 metres", ARGUMENT, () -> ship.make(0, 90001, 0));
        fails("tank 3", ARGUMENT, () -> ship.make(0, 1, 3));
        fails("tank -1", ARGUMENT, () -> ship.make(0, 1, -1));
        for (int i = 3; i < 30; i++) {
            is("piece", ship.make(1, 1, 1), i);
        }
        fails("a 31st piece", STATE, () -> ship.make(0, 1, 0));
        fails("a 31st piece of a wrong type", ARGUMENT, () -> ship.make(7, 1, 0));
    }

    private static void lay() {
        promise = 8;
        CableShip ship = shipIn("ccccccccc");
        ship.make(1, 60000, 0);
        ship.make(1, 60000, 0);
        fails("0 cells", ARGUMENT, () -> ship.lay(0, 0, 0));
        fails("13 cells", ARGUMENT, () -> ship.lay(13, 0, 0));
        fails("slack -1", ARGUMENT, () -> ship.lay(1, -1, 0));
        fails("slack 51", ARGUMENT, () -> ship.lay(1, 51, 0));
        fails("tank 3", ARGUMENT, () -> ship.lay(1, 0, 3));
        fails("tank -1", ARGUMENT, () -> ship.lay(1, 0, -1));
        is("11 cells with all the slack", ship.lay(11, 50, 0), 11);
        is("metres", ship.line(0), 1005 + 50 + 10 * 1050);
        is("two more, of which one is too many for a day", ship.lay(2, 0, 0), 1);
        is("none on the same day", ship.lay(1, 0, 0), 0);
        ship.pass(1);
        is("twelve on the next one", ship.lay(12, 0, 0), 12);
        for (int i = 0; i < 6; i++) {
            ship.pass(1);
            ship.lay(12, 0, 0);
        }
        ship.pass(1);
        is("what there is to B", ship.lay(12, 0, 0), 4);
        fails("at B", STATE, () -> ship.lay(1, 0, 0));
        fails("at B, and no cell", ARGUMENT, () -> ship.lay(0, 0, 0));
    }

    private static void layByRules() {
        CableShip ship = new CableShip();
        ship.weather(7);
        ship.make(1, 4000, 0);
        is("waves of 7", ship.lay(1, 0, 0), 0);
        ship.weather(6);
        is("waves of 6, as long as there are metres", ship.lay(12, 0, 0), 3);
        is("what is left", ship.tank(0, 0), 995);
        ship.make(3, 2000, 1);
        ship.make(2, 1000, 2);
        is("two types apart", ship.lay(1, 0, 1), 0);
        is("one type apart", ship.lay(1, 0, 2), 1);
        ship.make(0, 500, 2);
        is("two apart behind a joint that was", ship.lay(1, 0, 2), 0);
        ship.make(1, 500, 1);
        is("two apart within one cell", ship.lay(1, 0, 1), 0);
        rowIs("by types", ship, 3005, J, 1000);
        CableShip deep = new CableShip();
        deep.make(0, 9000, 0);
        deep.make(1, 9000, 1);
        deep.make(2, 90000, 2);
        deep.sound(0, 508, 0);
        deep.sound(1, 509, 0);
        is("a tension of 60 of type 0, then of 61", deep.lay(2, 0, 0), 1);
        deep.sound(2, 1011, 0);
        deep.sound(3, 1012, 0);
        is("a tension of 90 of type 1, then of 91", deep.lay(9, 0, 1), 2);
        deep.sound(4, 2516, 0);
        deep.sound(5, 2517, 0);
        is("a tension of 150 of type 2, then of 151", deep.lay(9, 0, 2), 2);
        deep.make(3, 18000, 2);
        deep.sound(6, 6000, 0);
        is("type 3 goes everywhere", deep.lay(1, 0, 2), 1);
        CableShip tops = new CableShip();
        tops.make(0, 600, 0);
        tops.make(1, 600, 0);
        tops.sound(0, 600, 0);
        is("each type in a cell is looked at", tops.lay(1, 0, 0), 0);
        CableShip one = new CableShip();
        one.make(2, 1, 0);
        one.make(1, 1004, 0);
        one.make(0, 2000, 1);
        one.lay(1, 0, 0);
        is("what lies last is a single metre of type 2", one.lay(1, 0, 1), 0);
        CableShip slack = new CableShip();
        slack.make(1, 1026, 0);
        slack.sound(0, 99, 0);
        is("1004 metres and 21 of slack", slack.lay(1, 21, 0), 1);
        is("what is left of 1026", slack.tank(0, 0), 1);
    }

    private static void repeater() {
        promise = 9;
        CableShip ship = shipIn("ccs");
        fails("nothing lies", STATE, ship::repeater);
        ship.make(1, 3000, 0);
        ship.make(1, 1005, 0);
        ship.lay(1, 0, 0);
        is("the first one", ship.repeater(), 1);
        fails("behind another", STATE, ship::repeater);
        ship.lay(1, 0, 0);
        is("the second one", ship.repeater(), 2);
        rowIs("without joints beside repeaters", ship, 1005, R, 1000, R);
        ship.lay(1, 0, 0);
        rowIs("with a span that a repeater divides", ship, 1005, R, 1000, R, 1000);
        ship.pass(2);
        fails("buoyed", STATE, ship::repeater);
        CableShip full = fullLine();
        is("at B", full.repeater(), 3);
        fails("twice at B", STATE, full::repeater);
    }

    private static void takeUp() {
        promise = 10;
        CableShip ship = shipIn("cshcsc");
        ship.make(1, 3000, 0);
        ship.make(2, 1005, 0);
        ship.make(3, 500, 1);
        ship.make(2, 120, 2);
        ship.make(2, 79, 2);
        fails("not buoyed", STATE, () -> ship.takeUp(0));
        ship.lay(2, 0, 0);
        ship.fault(0, 10);
        ship.pass(1);
        fails("waves of 9", STATE, () -> ship.takeUp(0));
        ship.pass(1);
        fails("waves of 7 or 8", STATE, () -> ship.takeUp(0));
        ship.pass(1);
        fails("tank 3", ARGUMENT, () -> ship.takeUp(3));
        fails("tank -1", ARGUMENT, () -> ship.takeUp(-1));
        fails("two types apart", STATE, () -> ship.takeUp(1));
        fails("199 metres", STATE, () -> ship.takeUp(2));
        is("it is still buoyed", ship.line(6), 1);
        is("takeUp(0)", ship.takeUp(0), 200);
        is("it is no longer buoyed", ship.line(6), 0);
        is("nothing is to be put", ship.line(7), 0);
        is("the metres of the line", ship.line(0), 2005);
        is("the metres of the cell", ship.cell(1, 3), 1000);
        rowIs("with its joint", ship, 1005, J, 800, J, 200);
        is("the fault may be anywhere again", ship.ofFault(0, 2), 2005);
        fails("once more", STATE, () -> ship.takeUp(0));
        ship.lay(1, 0, 0);
        rowIs("and laid on", ship, 1005, J, 800, J, 1200);
        ship.pass(1);
        is("waste of two storms", ship.line(5), 400);
        ship.pass(1);
        ship.make(1, 100, 2);
        is("of several pieces", ship.takeUp(2), 200);
        rowIs("of several pieces", ship, 1005, J, 800, J, 1000, J, 100, J, 79, J, 21);
    }

    private static void takeUpByRules() {
        CableShip empty = shipIn("csc");
        empty.pass(2);
        is("nothing to put", empty.takeUp(1), 0);
        is("no joint then", empty.line(2), 0);
        is("it is not buoyed then", empty.line(6), 0);
        CableShip deep = shipIn("csc");
        deep.sound(0, 800, 0);
        deep.make(1, 1400, 0);
        deep.lay(1, 0, 0);
        deep.make(0, 300, 0);
        deep.pass(2);
        is("tension does not matter", deep.takeUp(0), 200);
        CableShip apart = shipIn("csc");
        apart.make(1, 1005, 0);
        apart.lay(1, 0, 0);
        apart.make(1, 100, 0);
        apart.make(3, 100, 0);
        apart.make(2, 50, 0);
        apart.pass(2);
        fails("two types apart within", STATE, () -> apart.takeUp(0));
        CableShip one = shipIn("csc");
        one.make(2, 201, 0);
        one.make(1, 1804, 0);
        one.make(0, 2000, 1);
        one.lay(2, 0, 0);
        one.pass(2);
        rowIs("with a single metre at its end", one, 1804, J, 1);
        fails("two types apart from a single metre", STATE, () -> one.takeUp(1));
        is("nothing of it goes out", apart.tank(0, 0), 250);
    }

    private static void feed() {
        promise = 11;
        CableShip ship = fullLine();
        ship.feed(9999, 9999);
        is("fed enough", ship.isFed(), true);
        ship.feed(0, 0);
        is("fed with nothing", ship.isFed(), false);
        fails("a -1", ARGUMENT, () -> ship.feed(-1, 0));
        fails("a 10000", ARGUMENT, () -> ship.feed(10000, 9999));
        fails("b -1", ARGUMENT, () -> ship.feed(9999, -1));
        fails("b 10000", ARGUMENT, () -> ship.feed(9999, 10000));
        is("after wrong ones", ship.isFed(), false);
    }

    private static void fault() {
        promise = 12;
        CableShip ship = new CableShip();
        fails("nothing lies", ARGUMENT, () -> ship.fault(0, 0));
        ship.make(1, 3000, 0);
        ship.lay(1, 0, 0);
        fails("kind 2", ARGUMENT, () -> ship.fault(2, 0));
        fails("kind -1", ARGUMENT, () -> ship.fault(-1, 0));
        fails("place -1", ARGUMENT, () -> ship.fault(0, -1));
        fails("behind the line", ARGUMENT, () -> ship.fault(0, 1005));
        is("the first metre", ship.fault(CableShip.SHUNT, 0), 1);
        is("the last metre", ship.fault(CableShip.BREAK, 1004), 2);
        is("the same place again", ship.fault(CableShip.SHUNT, 1004), 3);
        is("a fourth", ship.fault(CableShip.BREAK, 500), 4);
        fails("a fifth", STATE, () -> ship.fault(0, 0));
        fails("a fifth of a wrong kind", ARGUMENT, () -> ship.fault(2, 0));
    }

    private static void net() {
        promise = 13;
        CableShip ship = shipIn("ccs");
        ship.make(3, 3000, 0);
        ship.make(2, 3000, 0);
        ship.make(1, 1305, 0);
        ship.sound(1, 299, 0);
        ship.sound(2, 300, 0);
        ship.sound(3, 299, 0);
        is("nothing lies", ship.net(0), false);
        ship.lay(5, 0, 0);
        is("type 1", ship.net(0), false);
        is("299 metres, and type 2 from the 301st metre on", ship.net(1), true);
        is("a break", ship.ofFault(0, 0), CableShip.BREAK);
        is("the line that it may be in", ship.ofFault(0, 2), ship.line(0));
        is("300 metres", ship.net(2), false);
        is("299 metres", ship.net(3), true);
        fails("cell -1", ARGUMENT, () -> ship.net(-1));
        fails("cell 100", ARGUMENT, () -> ship.net(100));
        is("a cell that is not laid", ship.net(5), false);
        ship.pass(2);
        is("the last cell, of which 200 metres are lost", ship.net(4), true);
        ship.net(4);
        fails("four faults", STATE, () -> ship.net(99));
        fails("four faults and a wrong cell", ARGUMENT, () -> ship.net(100));
        CableShip middle = fullLineOfType(2);
        middle.net(50);
        is("the middle of a cell, from A", middle.measure(false, false, 262), 50505 - 262 + 262);
        CableShip edge = new CableShip();
        edge.make(2, 503, 0);
        edge.make(1, 502, 0);
        edge.lay(1, 0, 0);
        is("type 2 at the place 502 of 1005", edge.net(0), true);
        CableShip before = new CableShip();
        before.make(2, 502, 0);
        before.make(1, 503, 0);
        before.lay(1, 0, 0);
        is("type 1 at the place 502 of 1005", before.net(0), false);
    }

    private static void measure() {
        promise = 14;
        CableShip ship = fullLineOfType(1);
        is("no fault", ship.measure(false, true, 0), NONE);
        ship.fault(CableShip.SHUNT, 9999);
        is("a shunt gives no echo", ship.measure(false, false, 0), NONE);
        is("a shunt by voltage", ship.measure(false, true, 0), 9999 - 118);
        ship.fault(CableShip.BREAK, 30000);
        ship.fault(CableShip.BREAK, 40000);
        ship.fault(CableShip.BREAK, 100004);
        is("the nearest break from A", ship.measure(false, false, 0), 30000 - 160);
        is("a draw that errs nothing", ship.measure(false, false, 160), 30000);
        is("a draw that errs most", ship.measure(false, false, 320), 30160);
        is("a draw one above", ship.measure(false, false, 321), 29840);
        is("the nearest break from B", ship.measure(true, false, 10), 1);
        is("below 0", ship.measure(true, false, 0), 0);
        is("by voltage from B", ship.measure(true, true, 40), 21);
        is("the last break's end", ship.ofFault(3, 2), 100005);
        is("the last break's begin", ship.ofFault(3, 1), 100005 - 12);
        is("draw 65536", ship.measure(false, false, 65536), 29840 + 65536 % 321);
        fails("draw -1", ARGUMENT, () -> ship.measure(false, false, -1));
        fails("draw 65537", ARGUMENT, () -> ship.measure(false, false, 65537));
        CableShip short1 = new CableShip();
        fails("not at B", STATE, () -> short1.measure(false, false, 0));
        fails("not at B, a wrong draw", ARGUMENT, () -> short1.measure(false, false, -1));
        CableShip divided = fullLine();
        divided.fault(CableShip.BREAK, 36004);
        is("ahead of a repeater from A", divided.measure(false, false, 190), 36004);
        is("behind repeaters from B", divided.measure(true, false, 0), NONE);
        is("by voltage through repeaters", divided.measure(true, true, 660), 64001);
        divided.pass(1);
        CableShip at = fullLine();
        at.fault(CableShip.BREAK, 36005);
        is("a repeater at the place is on this side from A", at.measure(false, false, 0), NONE);
        CableShip onlyFirst = fullLine();
        onlyFirst.fault(CableShip.BREAK, 72005);
        is("a repeater at the place is not on B's side", onlyFirst.measure(true, false, 150), 28000);
        onlyFirst.fault(CableShip.BREAK, 72004);
        is("the nearer one is found from B", onlyFirst.measure(true, false, 150), 28000);
        CableShip equal = fullLineOfType(1);
        equal.fault(CableShip.BREAK, 500);
        equal.fault(CableShip.BREAK, 500);
        equal.measure(false, false, 0);
        equal.measure(true, false, 0);
        is("of two at a place the one that came first", equal.ofFault(1, 2), 100005);
        CableShip end = fullLine();
        end.fault(CableShip.BREAK, 100004);
        end.repeater();
        is("a repeater at the end", end.measure(true, false, 0), NONE);
    }

    private static void mend() {
        promise = 15;
        CableShip ship = fullLine();
        ship.make(1, 9000, 2);
        fails("cell -1", ARGUMENT, () -> ship.mend(-1, 2));
        fails("cell 100", ARGUMENT, () -> ship.mend(100, 2));
        fails("tank 3", ARGUMENT, () -> ship.mend(0, 3));
        fails("tank -1", ARGUMENT, () -> ship.mend(0, -1));
        fails("an empty tank", STATE, () -> ship.mend(0, 1));
        ship.fault(0, 10004);
        ship.fault(1, 10005);
        ship.fault(0, 11004);
        ship.fault(1, 11005);
        is("the faults that are gone", ship.mend(10, 2), 2);
        rowIs("mended", ship, 10005, J, 1200, J, 25000, R, 23995, J, 12005, R, 28000);
        is("the waste", ship.line(5), 1000);
        is("the metres", ship.line(0), 100205);
        is("the cell", ship.cell(10, 3), 1200);
        is("the next cell", ship.cell(11, 2), 11205);
        is("the tank", ship.tank(2, 0), 7800);
        is("the fault behind is shifted", ship.measure(true, false, 0), NONE);
        is("the fault behind by voltage", ship.measure(true, true, 910), 100205 - 11205);
        fails("busy", STATE, () -> ship.mend(50, 2));
        ship.make(2, 600, 1);
        ship.make(3, 600, 1);
        ship.make(2, 1200, 1);
        ship.make(3, 1200, 1);
        passUntilBusyEnds(ship, 3);
        fails("two types apart from what lies", STATE, () -> ship.mend(50, 1));
        is("nothing went out", ship.tank(1, 0), 3600);
        is("at the shore A", ship.mend(0, 2), 0);
        rowIs("with a joint at the shore A", ship, J, 1205, J, 9000, J, 1200, J, 25000, R, 23995, J, 12005, R, 28000);
        passUntilBusyEnds(ship, 3);
        is("at the shore B", ship.mend(99, 2), 0);
        rowIs("with a joint at the shore B", ship,
            J, 1205, J, 9000, J, 1200, J, 25000, R, 23995, J, 12005, R, 27000, J, 1200, J);
        passUntilBusyEnds(ship, 3);
        is("once more at the shore B", ship.mend(99, 2), 0);
        is("with as much again", ship.cell(99, 3), 1400);
        rowIs("with the same joints", ship,
            J, 1205, J, 9000, J, 1200, J, 25000, R, 23995, J, 12005, R, 27000, J, 1400, J);
    }

    /** Mending keeps the ship busy for so many days; on each of these it cannot work. */
    private static void passUntilBusyEnds(CableShip ship, int days) {
        for (int i = 0; i < days; i++) {
            is("canWork() " + i + " days after mending", ship.canWork(), false);
            ship.pass(1);
        }
        while (!ship.canWork()) {
            is("waves when the ship is no longer busy", ship.waves() > 6, true);
            ship.pass(1);
        }
    }

    private static void mendByRules() {
        CableShip ship = shipIn("csc");
        ship.make(1, 9000, 0);
        ship.make(2, 600, 1);
        ship.make(2, 600, 1);
        fails("nothing lies", STATE, () -> ship.mend(0, 0));
        ship.lay(3, 0, 0);
        fails("neither at B nor buoyed", STATE, () -> ship.mend(0, 0));
        ship.pass(1);
        fails("waves of 9", STATE, () -> ship.mend(0, 0));
        ship.pass(1);
        fails("the last cell of a buoyed line", STATE, () -> ship.mend(2, 0));
        fails("a cell that is not laid", STATE, () -> ship.mend(3, 0));
        is("of two pieces", ship.mend(1, 1), 0);
        rowIs("of two pieces", ship, 1005, J, 600, J, 600, J, 800);
        is("it stays buoyed", ship.line(6), 1);
        is("waste", ship.line(5), 1200);
        CableShip deep = shipIn("csc");
        deep.sound(0, 4000, 0);
        deep.sound(1, 4000, 0);
        deep.make(3, 90000, 0);
        deep.lay(2, 0, 0);
        deep.pass(2);
        deep.mend(0, 0);
        is("as much and twice the depth", deep.cell(0, 3), 9000 + 8000);
        passUntilBusyEnds(deep, 7);
        CableShip between = shipIn("csc");
        between.make(3, 1000, 0);
        between.make(2, 2000, 0);
        between.lay(1, 0, 0);
        between.make(1, 1000, 1);
        between.make(2, 5, 1);
        between.lay(2, 0, 0);
        is("two of three cells, as the tank has too little", between.line(1), 2);
        CableShip types = shipIn("csc");
        types.make(1, 1005, 0);
        types.lay(1, 0, 0);
        types.make(2, 995, 0);
        types.make(3, 3000, 1);
        types.make(2, 1000, 1);
        types.lay(2, 0, 1);
        types.pass(2);
        types.make(1, 1405, 2);
        fails("two types apart from what is behind", STATE, () -> types.mend(1, 2));
        CableShip one = shipIn("csc");
        one.make(1, 9000, 0);
        one.make(2, 500, 0);
        one.make(1, 1004, 0);
        one.make(0, 2000, 1);
        one.lay(3, 0, 0);
        one.pass(2);
        fails("two types apart from a single metre ahead", STATE, () -> one.mend(1, 1));
        is("not from what is ahead", types.mend(0, 2), 0);
    }

    private static void mendNextToRepeaters() {
        CableShip ship = fullLine();
        ship.make(1, 90000, 2);
        ship.mend(35, 2);
        rowIs("a repeater right at the end stays", ship, 35005, J, 1200, J, R, 23995, J, 12005, R, 28000);
        passUntilCalm(ship);
        passUntilCalm(ship);
        passUntilCalm(ship);
        while (!ship.canWork()) {
            ship.pass(1);
        }
        ship.mend(36, 2);
        rowIs("a joint at that end is cut out", ship, 35005, J, 1200, R, J, 1200, J, 22995, J, 12005, R, 28000);
        CableShip within = shipIn("csc");
        within.make(1, 9000, 0);
        within.lay(1, 0, 0);
        within.repeater();
        within.lay(1, 0, 0);
        within.repeater();
        within.lay(1, 0, 0);
        within.pass(2);
        within.mend(1, 0);
        rowIs("repeaters at both ends stay outside", within, 1005, R, J, 1200, J, R, 800);
        is("how many repeaters", within.line(4), 2);
        CableShip cut = fullLine();
        cut.make(1, 90000, 2);
        cut.mend(35, 2);
        is("repeaters are at cells' ends alone", cut.line(4), 2);
    }

    private static void link() {
        promise = 16;
        CableShip ship = new CableShip();
        is("link(0, 3, 1)", ship.link(0, 3, 1), 1);
        is("link(3, 0, 20)", ship.link(3, 0, 20), 2);
        fails("a -1", ARGUMENT, () -> ship.link(-1, 0, 1));
        fails("a 4", ARGUMENT, () -> ship.link(4, 0, 1));
        fails("b -1", ARGUMENT, () -> ship.link(0, -1, 1));
        fails("b 4", ARGUMENT, () -> ship.link(0, 4, 1));
        fails("the same station", ARGUMENT, () -> ship.link(2, 2, 1));
        fails("capacity 0", ARGUMENT, () -> ship.link(0, 1, 0));
        fails("capacity 21", ARGUMENT, () -> ship.link(0, 1, 21));
        ship.link(1, 2, 1);
        ship.link(1, 2, 1);
        is("the last one", ship.link(0, 1, 1), 5);
        fails("a seventh", STATE, () -> ship.link(0, 1, 1));
        fails("a seventh of no capacity", ARGUMENT, () -> ship.link(0, 1, 0));
    }

    private static void dead() {
        promise = 17;
        CableShip ship = new CableShip();
        ship.link(0, 1, 5);
        is("at first", ship.dead(1, true), false);
        is("again", ship.dead(1, true), true);
        is("no longer", ship.dead(1, false), true);
        is("then", ship.dead(1, false), false);
        fails("link 2", INDEX, () -> ship.dead(2, true));
        fails("link -1", INDEX, () -> ship.dead(-1, true));
        fails("link 0", ARGUMENT, () -> ship.dead(0, true));
    }

    private static void demand() {
        promise = 18;
        CableShip ship = new CableShip();
        fails("a -1", ARGUMENT, () -> ship.demand(-1, 0, 1));
        fails("a 4", ARGUMENT, () -> ship.demand(4, 0, 1));
        fails("b -1", ARGUMENT, () -> ship.demand(0, -1, 1));
        fails("b 4", ARGUMENT, () -> ship.demand(0, 4, 1));
        fails("the same station", ARGUMENT, () -> ship.demand(3, 3, 1));
        fails("0 waves", ARGUMENT, () -> ship.demand(0, 1, 0));
        fails("9 waves", ARGUMENT, () -> ship.demand(0, 1, 9));
        for (int i = 0; i < 10; i++) {
            is("number", ship.demand(0, 1, 8), i);
        }
        fails("an eleventh", STATE, () -> ship.demand(0, 1, 1));
        fails("an eleventh of 0 waves", ARGUMENT, () -> ship.demand(0, 1, 0));
    }

    private static void restore() {
        promise = 19;
        CableShip ship = new CableShip();
        is("nothing", ship.restore(), 0);
        ship.link(0, 1, 4);
        ship.link(0, 1, 3);
        ship.demand(0, 1, 3);
        ship.demand(1, 0, 3);
        ship.demand(0, 1, 4);
        ship.demand(0, 1, 1);
        is("the last one fits beside the first one", ship.way(3), 2);
        is("one is dark", ship.restore(), 1);
        ship.dead(1, true);
        is("a dead link's waves stay until all is restored", ship.way(0), 2);
        is("three are dark", ship.restore(), 3);
        is("the first one finds no room", ship.way(0), 0);
        is("the second one stays", ship.way(1), 4);
        ship.dead(1, false);
        is("by rising numbers", ship.restore(), 1);
        is("the first one is carried first", ship.way(0), 2);
        is("the third one has no room", ship.way(2), 0);
        is("the fourth one has some", ship.way(3), 2);
        CableShip line = fullLine();
        line.feed(9999, 9999);
        line.demand(0, 1, 7);
        line.demand(1, 0, 1);
        line.demand(0, 1, 1);
        is("this line carries 8 waves", line.restore(), 1);
        line.fault(CableShip.BREAK, 5);
        is("a line that is broken carries nothing", line.restore(), 3);
    }

    private static void way() {
        promise = 20;
        CableShip ship = new CableShip();
        fails("no demand", INDEX, () -> ship.way(0));
        ship.link(2, 3, 9);
        ship.link(1, 3, 9);
        ship.link(0, 2, 9);
        ship.link(0, 1, 3);
        ship.demand(0, 3, 1);
        is("of two ways the one whose first link is lower", ship.way(0), 8 | 2);
        ship.demand(3, 0, 1);
        is("seen from the other end", ship.way(1), 2 | 8);
        ship.demand(0, 1, 2);
        is("the fewest links", ship.way(2), 16);
        ship.demand(0, 1, 2);
        is("three links, as the short one has 1 free", ship.way(3), 8 | 2 | 4);
        ship.demand(1, 0, 8);
        is("none with so much free", ship.way(4), 0);
        fails("way(5)", INDEX, () -> ship.way(5));
        fails("way(-1)", INDEX, () -> ship.way(-1));
        CableShip twin = new CableShip();
        twin.link(1, 2, 4);
        twin.link(2, 1, 9);
        twin.demand(1, 2, 3);
        is("of twins the lower one", twin.way(0), 2);
        twin.demand(1, 2, 3);
        is("the other one when there is no more room", twin.way(1), 4);
        twin.demand(2, 1, 1);
        is("the last room of the first one", twin.way(2), 2);
        CableShip reversed = new CableShip();
        reversed.link(0, 3, 9);
        reversed.link(2, 1, 9);
        reversed.link(3, 1, 9);
        reversed.link(0, 2, 9);
        reversed.demand(1, 0, 1);
        is("the first link from the first station", reversed.way(0), 4 | 16);
        reversed.demand(0, 1, 1);
        is("the first link from the other one", reversed.way(1), 2 | 8);
    }

    private static void isLit() {
        promise = 21;
        CableShip ship = fullLine();
        fails("no demand", INDEX, () -> ship.isLit(0));
        ship.feed(9999, 9999);
        ship.link(1, 2, 4);
        ship.demand(0, 2, 4);
        is("the way over this line", ship.way(0), 3);
        is("carried", ship.isLit(0), true);
        ship.dead(1, true);
        is("over a dead link", ship.isLit(0), false);
        ship.dead(1, false);
        is("over one that is no longer dead", ship.isLit(0), true);
        ship.feed(0, 0);
        is("over a line without power", ship.isLit(0), false);
        is("the way is kept", ship.way(0), 3);
        ship.demand(1, 2, 1);
        is("a dark one", ship.isLit(1), false);
        fails("isLit(2)", INDEX, () -> ship.isLit(2));
        fails("isLit(-1)", INDEX, () -> ship.isLit(-1));
    }

    private static void day() {
        promise = 22;
        CableShip ship = new CableShip();
        ship.pass(17);
        is("day()", ship.day(), 17);
    }

    private static void waves() {
        promise = 23;
        CableShip ship = new CableShip();
        ship.weather(31337);
        for (int i = 0; i < 100; i++) {
            is("waves() of day " + i, ship.waves(), drawOf(31337, i) % 10);
            ship.pass(1);
        }
    }

    private static void canWork() {
        promise = 24;
        CableShip ship = new CableShip();
        for (int seed = 0; seed < 10; seed++) {
            ship.weather(seed);
            is("canWork() with waves of " + seed, ship.canWork(), seed <= 6);
        }
    }

    private static void cell() {
        promise = 25;
        CableShip ship = new CableShip();
        ship.sound(0, 200, 0);
        ship.sound(1, 0, 0);
        ship.sound(2, 6000, 0);
        ship.sound(3, 5000, 0);
        ship.sound(4, 5044, 0);
        ship.sound(5, 5089, 0);
        is("the ground of the cell 0", ship.cell(0, 1), 1020);
        is("down to 0", ship.cell(1, 1), 1020);
        is("down to 6000", ship.cell(2, 1), 19000);
        is("up to 5000", ship.cell(3, 1), 1500);
        is("44 metres", ship.cell(4, 1), 1000);
        is("45 metres", ship.cell(5, 1), 1001);
        is("not laid", ship.cell(0, 2), NONE);
        is("not laid", ship.cell(0, 3), NONE);
        ship.make(3, 9000, 0);
        ship.lay(2, 10, 0);
        is("begins", ship.cell(0, 2), 0);
        is("metres", ship.cell(0, 3), 1030);
        is("begins", ship.cell(1, 2), 1030);
        is("begins, but is not laid", ship.cell(2, 2), NONE);
        fails("cell -1", ARGUMENT, () -> ship.cell(-1, 0));
        fails("cell 100", ARGUMENT, () -> ship.cell(100, 0));
        fails("what -1", ARGUMENT, () -> ship.cell(0, -1));
        fails("what 4", ARGUMENT, () -> ship.cell(0, 4));
    }

    private static void tension() {
        promise = 26;
        CableShip ship = new CableShip();
        ship.sound(99, 3333, 0);
        is("type 0", ship.tension(0, 99), 399);
        is("type 1", ship.tension(1, 99), 299);
        is("type 2", ship.tension(2, 99), 199);
        is("type 3", ship.tension(3, 99), 99);
        is("without a sounding", ship.tension(0, 0), 12);
        fails("type 4", ARGUMENT, () -> ship.tension(4, 0));
        fails("type -1", ARGUMENT, () -> ship.tension(-1, 0));
        fails("cell 100", ARGUMENT, () -> ship.tension(0, 100));
        fails("cell -1", ARGUMENT, () -> ship.tension(0, -1));
    }

    private static void tank() {
        promise = 27;
        CableShip ship = new CableShip();
        for (int i = 2; i < 5; i++) {
            is("tank(1, " + i + ")", ship.tank(1, i), NONE);
        }
        ship.make(3, 700, 1);
        ship.make(2, 905, 1);
        ship.make(0, 50, 0);
        tankIs(ship, 1605, 2, 2, 1, 0);
        ship.lay(1, 0, 1);
        tankIs(ship, 600, 1, 3, 0, 100);
        ship.make(1, 60, 1);
        tankIs(ship, 660, 2, 1, 3, 0);
        fails("tank -1", ARGUMENT, () -> ship.tank(-1, 0));
        fails("tank 3", ARGUMENT, () -> ship.tank(3, 0));
        fails("what -1", ARGUMENT, () -> ship.tank(0, -1));
        fails("what 5", ARGUMENT, () -> ship.tank(0, 5));
        CableShip exact = new CableShip();
        exact.make(1, 1005, 2);
        exact.lay(1, 0, 2);
        is("a tank from which all went out", exact.tank(2, 1), 0);
        is("its type", exact.tank(2, 2), NONE);
    }

    private static void tankIs(CableShip ship, int... due) {
        for (int i = 0; i < due.length; i++) {
            is("tank(1, " + i + ")", ship.tank(1, i), due[i]);
        }
    }

    private static void line() {
        promise = 28;
        CableShip ship = shipIn("cs");
        ship.make(1, 2500, 0);
        ship.make(1, 1505, 0);
        ship.lay(3, 0, 0);
        ship.repeater();
        lineIs(ship, 3005, 3, 4, 1, 1, 0, 0, 0);
        ship.pass(1);
        lineIs(ship, 2805, 3, 3, 1, 0, 200, 1, 200);
        fails("what -1", ARGUMENT, () -> ship.line(-1));
        fails("what 8", ARGUMENT, () -> ship.line(8));
    }

    private static void lineIs(CableShip ship, int... due) {
        for (int i = 0; i < due.length; i++) {
            is("line(" + i + ")", ship.line(i), due[i]);
        }
    }

    private static void thing() {
        promise = 29;
        CableShip ship = new CableShip();
        fails("an empty line", INDEX, () -> ship.thing(0, 0));
        ship.make(2, 1000, 0);
        ship.make(1, 1505, 0);
        ship.lay(2, 0, 0);
        ship.repeater();
        int[][] due = {{0, 1, 0, 1504}, {1, NONE, NONE, NONE}, {0, 0, 0, 499}, {2, NONE, NONE, NONE}};
        for (int i = 0; i < due.length; i++) {
            for (int what = 0; what < 4; what++) {
                is("thing(" + i + ", " + what + ")", ship.thing(i, what), due[i][what]);
            }
        }
        fails("thing 4", INDEX, () -> ship.thing(4, 0));
        fails("thing -1", INDEX, () -> ship.thing(-1, 0));
        fails("what -1", ARGUMENT, () -> ship.thing(1, -1));
        fails("what 4", ARGUMENT, () -> ship.thing(1, 4));
        fails("thing 4, what 4", INDEX, () -> ship.thing(4, 4));
    }

    private static void metre() {
        promise = 30;
        CableShip ship = mendedTwice();
        fails("place -1", INDEX, () -> ship.metre(-1));
        fails("behind the line", INDEX, () -> ship.metre(ship.line(0)));
        fails("an empty line", INDEX, () -> new CableShip().metre(0));
        int[][] due = placesOfMendedTwice();
        for (int[] each : due) {
            is("metre(" + each[0] + ")", ship.metre(each[0]), each[1]);
        }
    }

    private static void metreAnew() {
        promise = 31;
        CableShip ship = mendedTwice();
        fails("place -1", INDEX, () -> ship.metreAnew(-1));
        fails("behind the line", INDEX, () -> ship.metreAnew(ship.line(0)));
        fails("an empty line", INDEX, () -> new CableShip().metreAnew(0));
        for (int[] each : placesOfMendedTwice()) {
            is("metreAnew(" + each[0] + ")", ship.metreAnew(each[0]), each[1]);
        }
        for (int place = 0; place < ship.line(0); place++) {
            if (ship.metre(place) != ship.metreAnew(place)) {
                is("metreAnew(" + place + ")", ship.metreAnew(place), ship.metre(place));
            }
        }
    }

    /** Three cells, a storm, the cells 1 and 0 mended, and taken up: the pieces 0, 1 and 2 lie in them. */
    private static CableShip mendedTwice() {
        CableShip ship = shipIn("csccccccc");
        ship.make(1, 9000, 0);
        ship.make(1, 2000, 1);
        ship.make(2, 700, 2);
        ship.make(2, 700, 2);
        ship.lay(3, 0, 0);
        ship.pass(2);
        ship.mend(1, 1);
        ship.pass(3);
        ship.mend(0, 2);
        ship.pass(3);
        ship.takeUp(1);
        return ship;
    }

    private static int[][] placesOfMendedTwice() {
        return new int[][] {{0, 300000}, {699, 300699}, {700, 200000}, {1204, 200504}, {1205, 100000}, {2404, 101199},
            {2405, 2005}, {3204, 2804}, {3205, 101200}, {3404, 101399}};
    }

    private static void margin() {
        promise = 32;
        CableShip ship = fullLine();
        is("of three parts the least one", ship.margin(), 3000 - 479 - 5 - 240 - 1500);
        ship.pass(356);
        is("day 364", ship.margin(), 776);
        ship.pass(1);
        is("day 365", ship.margin(), 3000 - 484 - 5 - 242 - 1500);
        is("without anything", new CableShip().margin(), 1500);
        CableShip bare = fullLineOfType(1);
        is("below 0", bare.margin(), 3000 - 1200 - 5 - 800 - 1500);
        bare.repeater();
        is("a repeater at the end makes it no better", bare.margin(), 3000 - 2005 - 1500);
        CableShip weak = fullLineOfType(1, 96);
        is("ahead of a repeater", weak.margin(), 3000 - 1200 - 5 - 720 - 1500);
        CableShip old = fullLineOfType(1, 45);
        for (int i = 0; i < 50; i++) {
            old.pass(365);
        }
        is("1200 more, not up to 3000", old.margin(), 3000 - 1350 + 1200 - 449 - 5 - 1200 - 1500);
    }

    private static void earth() {
        promise = 33;
        CableShip ship = fullLine();
        is("fed with nothing", ship.earth(), 99);
        ship.feed(359, 0);
        is("in the first span", ship.earth(), 35999);
        ship.feed(360, 0);
        is("at the end of the first span", ship.earth(), 36005);
        ship.feed(399, 9999);
        is("not over the repeater", ship.earth(), 36005);
        ship.feed(400, 0);
        is("over the repeater, and 99 metres", ship.earth(), 36104);
        ship.feed(639, 0);
        is("over a joint, and 99 metres", ship.earth(), 60099);
        ship.feed(1078, 0);
        is("nearly all", ship.earth(), 72005 + 27999);
        ship.feed(1079, 0);
        is("all", ship.earth(), 100005);
        ship.feed(9999, 0);
        is("more than all", ship.earth(), 100005);
        ship.fault(CableShip.SHUNT, 100);
        is("as if there were no shunts", ship.earth(), 100005);
        is("an empty line", new CableShip().earth(), 0);
    }

    private static void isFed() {
        promise = 34;
        CableShip ship = fullLine();
        ship.feed(500, 578);
        is("1078 of 1079", ship.isFed(), false);
        ship.feed(500, 579);
        is("1079 of 1079", ship.isFed(), true);
        ship.fault(CableShip.BREAK, 0);
        is("a break does not matter", ship.isFed(), true);
        ship.fault(CableShip.SHUNT, 36005);
        ship.feed(400, 679);
        is("a repeater at the shunt is ahead of it", ship.isFed(), true);
        ship.feed(399, 679);
        is("too little from A", ship.isFed(), false);
        ship.feed(400, 678);
        is("too little from B", ship.isFed(), false);
        ship.fault(CableShip.SHUNT, 99906);
        ship.feed(400, 0);
        is("99 metres behind the last one", ship.isFed(), true);
        ship.fault(CableShip.SHUNT, 99);
        ship.feed(0, 0);
        is("99 metres ahead of the first one", ship.isFed(), true);
        CableShip shunt = fullLine();
        shunt.fault(CableShip.SHUNT, 100);
        shunt.feed(0, 9999);
        is("100 metres ahead of it", shunt.isFed(), false);
        shunt.feed(1, 1078);
        is("99905 metres behind it", shunt.isFed(), true);
        shunt.feed(1, 1077);
        is("too little for these", shunt.isFed(), false);
        CableShip last = fullLine();
        last.fault(CableShip.SHUNT, 99905);
        last.feed(9999, 0);
        is("100 metres behind it", last.isFed(), false);
        CableShip part = new CableShip();
        part.make(1, 9000, 0);
        part.lay(1, 0, 0);
        part.feed(9999, 9999);
        is("not at B", part.isFed(), false);
    }

    private static void works() {
        promise = 35;
        CableShip ship = fullLine();
        is("without power", ship.works(), false);
        ship.feed(1079, 0);
        is("with power", ship.works(), true);
        ship.fault(CableShip.SHUNT, 99910);
        is("a shunt that is fed", ship.works(), true);
        ship.fault(CableShip.BREAK, 99910);
        is("a break", ship.works(), false);
        CableShip weak = fullLineOfType(1);
        weak.feed(9999, 9999);
        is("a margin below 0", weak.works(), false);
        is("is fed", weak.isFed(), true);
        CableShip part = new CableShip();
        part.feed(9999, 9999);
        is("not at B", part.works(), false);
        CableShip old = fullLineOfType(1, 32);
        old.feed(9999, 9999);
        for (int i = 0; i < 10; i++) {
            old.pass(365);
        }
        is("the margin after ten years", old.margin(), 0);
        is("a margin of 0", old.works(), true);
        old.pass(365);
        is("a year later", old.works(), false);
    }

    private static void ofFault() {
        promise = 36;
        CableShip ship = fullLineOfType(1);
        ship.fault(CableShip.BREAK, 50000);
        ship.fault(CableShip.SHUNT, 40000);
        is("kind", ship.ofFault(0, 0), CableShip.BREAK);
        is("kind", ship.ofFault(1, 0), CableShip.SHUNT);
        is("from", ship.ofFault(0, 1), 0);
        is("to", ship.ofFault(0, 2), 100005);
        ship.measure(false, false, 260);
        is("from after an echo of 50000", ship.ofFault(0, 1), 50000 - 275);
        is("to after an echo of 50000", ship.ofFault(0, 2), 50000 + 275);
        is("the other one is as before", ship.ofFault(1, 2), 100005);
        ship.measure(false, false, 360);
        is("from after 50100", ship.ofFault(0, 1), 50100 - 275);
        is("to after 50100", ship.ofFault(0, 2), 50275);
        ship.measure(true, false, 260);
        is("from B, 50005 metres away", ship.ofFault(0, 1), 50000 - 175);
        ship.measure(false, true, 420);
        is("from by voltage of 40000", ship.ofFault(1, 1), 40000 - 444);
        is("to by voltage of 40000", ship.ofFault(1, 2), 40000 + 444);
        fails("fault 2", INDEX, () -> ship.ofFault(2, 0));
        fails("fault -1", INDEX, () -> ship.ofFault(-1, 0));
        fails("what -1", ARGUMENT, () -> ship.ofFault(0, -1));
        fails("what 3", ARGUMENT, () -> ship.ofFault(0, 3));
        fails("fault 2, what 3", INDEX, () -> ship.ofFault(2, 3));
        ship.make(1, 2000, 2);
        ship.mend(70, 2);
        is("from after mending", ship.ofFault(0, 1), 0);
        is("to after mending", ship.ofFault(0, 2), 100205);
        CableShip young = new CableShip();
        young.make(1, 9000, 0);
        young.lay(1, 0, 0);
        young.fault(0, 5);
        young.lay(1, 0, 0);
        is("what is laid later does not matter", young.ofFault(0, 2), 1005);
    }

    private static void faults() {
        promise = 37;
        CableShip ship = fullLine();
        ship.fault(0, 0);
        ship.fault(0, 0);
        is("two", ship.faults(), 2);
        ship.make(1, 2000, 2);
        is("both are gone", ship.mend(0, 2), 2);
        is("none", ship.faults(), 0);
    }

    private static void isKept() {
        promise = 38;
        CableShip ship = shipIn("cscccccccc");
        is("at first", ship.isKept(), true);
        ship.make(1, 9000, 0);
        is("in a tank", ship.isKept(), true);
        ship.lay(3, 50, 0);
        is("in the line", ship.isKept(), true);
        ship.pass(1);
        is("in the waste", ship.isKept(), true);
        ship.pass(1);
        ship.mend(0, 0);
        is("mended", ship.isKept(), true);
        passUntilCalm(ship);
        ship.pass(2);
        ship.takeUp(0);
        is("taken up", ship.isKept(), true);
    }
}
