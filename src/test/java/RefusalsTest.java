import java.util.ArrayList;
import java.util.EnumMap;
import java.util.List;
import java.util.Map;

/**
 * The ranges of all arguments, and all calls that are refused: the value at a bound is taken, the one right past it
 * (and far past it) is refused with the exception that is due, and "A call that throws an exception changes nothing":
 * a ship that got the refused call and a twin that did not answer alike, whatever is asked or done afterwards.
 */
public final class RefusalsTest extends ShipTestBase {
    private static final Map<State, List<Answers>> UNTOUCHED = new EnumMap<>(State.class);

    public static void main(String[] args) {
        theStatesThemselves();
        theSea();
        theDays();
        cable();
        laying();
        repeaters();
        takingUp();
        faults();
        mending();
        otherLines();
        questions();
        questionsOfRows();
        wherePrecedenceCounts();
        end();
    }

    // ---- ships to be refused something

    private enum State {
        FRESH {
            @Override
            CableShip make() {
                return new CableShip();
            }
        },
        /** Seven cells on the day 1; three of them were laid on it. */
        LAYING {
            @Override
            CableShip make() {
                CableShip ship = shipIn("ccsccccccccc");
                ship.sound(0, 140, 10);
                ship.sound(10, 150, 10);
                ship.sound(99, 160, 10);
                ship.wreck(50, true);
                ship.crossing(60, 1);
                ship.crossing(61, 2);
                ship.make(1, 40000, 0);
                ship.make(2, 1500, 0);
                ship.make(3, 60000, 1);
                ship.make(1, 199, 2);
                ship.lay(4, 10, 0);
                ship.repeater();
                ship.pass(1);
                ship.lay(3, 0, 0);
                ship.fault(CableShip.SHUNT, 500);
                ship.fault(CableShip.BREAK, 6000);
                addNet(ship);
                return ship;
            }
        },
        /** The same with a repeater at its end. */
        BEHIND_REPEATER {
            @Override
            CableShip make() {
                CableShip ship = LAYING.make();
                ship.repeater();
                return ship;
            }
        },
        /** The same in the storm that buoyed it. */
        IN_STORM {
            @Override
            CableShip make() {
                CableShip ship = LAYING.make();
                ship.pass(1);
                return ship;
            }
        },
        /** The same on the calm day behind that. */
        BUOYED {
            @Override
            CableShip make() {
                CableShip ship = LAYING.make();
                ship.pass(2);
                return ship;
            }
        },
        /** The same, with the ship busy by a mending. */
        BUOYED_AND_BUSY {
            @Override
            CableShip make() {
                CableShip ship = BUOYED.make();
                ship.mend(1, 0);
                return ship;
            }
        },
        AT_B {
            @Override
            CableShip make() {
                CableShip ship = fullLine();
                ship.make(3, 3000, 1);
                ship.make(1, 1199, 2);
                ship.fault(CableShip.SHUNT, 36004);
                ship.fault(CableShip.BREAK, 72005);
                addNet(ship);
                return ship;
            }
        },
        AT_B_AND_BUSY {
            @Override
            CableShip make() {
                CableShip ship = AT_B.make();
                ship.mend(10, 0);
                return ship;
            }
        },
        /** As many pieces, faults, links and demands as there may be. */
        FULL {
            @Override
            CableShip make() {
                CableShip ship = AT_B.make();
                for (int i = 4; i < 30; i++) {
                    ship.make(2, i, 2);
                }
                ship.fault(CableShip.SHUNT, 80000);
                ship.fault(CableShip.BREAK, 90000);
                ship.link(0, 3, 2);
                ship.link(2, 3, 9);
                ship.link(1, 3, 20);
                for (int i = 2; i < 10; i++) {
                    ship.demand(i % 4, (i + 1) % 4, 1 + i % 3);
                }
                return ship;
            }
        },
        /** A line that works, with a way over it and another line. */
        WORKING {
            @Override
            CableShip make() {
                CableShip ship = fullLine();
                ship.feed(1000, 1000);
                ship.link(1, 2, 5);
                ship.demand(0, 2, 3);
                return ship;
            }
        },
        /** Five cells, on a calm day, with another calm one to come. */
        DAY_19999 {
            @Override
            CableShip make() {
                CableShip ship = new CableShip();
                ship.weather(seedOfCalmEnd());
                ship.make(1, 90000, 0);
                for (int i = 0; i < 49; i++) {
                    ship.pass(400);
                }
                ship.pass(399);
                ship.takeUp(0);
                ship.lay(5, 0, 0);
                return ship;
            }
        },
        LAST_DAY {
            @Override
            CableShip make() {
                CableShip ship = DAY_19999.make();
                ship.pass(1);
                ship.lay(5, 0, 0);
                return ship;
            }
        };

        private static int seedOfCalmEnd() {
            int seed = 0;
            while (drawOf(seed, 19999) % 10 > 6 || drawOf(seed, 20000) % 10 > 6) {
                seed++;
            }
            return seed;
        }

        abstract CableShip make();

        private static void addNet(CableShip ship) {
            ship.feed(700, 800);
            ship.link(1, 2, 5);
            ship.link(0, 2, 3);
            ship.demand(0, 2, 3);
            ship.demand(1, 2, 2);
            ship.dead(1, true);
        }
    }

    private interface OnShip {
        void run(CableShip ship);
    }

    private interface OnShipWith {
        void run(CableShip ship, int argument);
    }

    private interface Question {
        long ask();
    }

    private static void takes(String call, State state, OnShip tried) {
        CableShip ship = state.make();
        fails(state + ": " + call, null, () -> tried.run(ship));
    }

    private static void refuses(String call, State state, Class<?> due, OnShip tried) {
        for (int i = 0; i < Answers.KINDS; i++) {
            CableShip ship = state.make();
            fails(state + ": " + call, due, () -> tried.run(ship));
            Answers got = new Answers(ship, i);
            got.compare(state + ": behind " + call, untouched(state).get(i));
        }
    }

    private static List<Answers> untouched(State state) {
        return UNTOUCHED.computeIfAbsent(state, each -> {
            List<Answers> all = new ArrayList<>();
            for (int i = 0; i < Answers.KINDS; i++) {
                all.add(new Answers(each.make(), i));
            }
            return all;
        });
    }

    /** What is right past the bounds, and far past them. */
    private static void outside(String call, State state, int least, int most, Class<?> due, OnShipWith tried) {
        int[] values = {least - 1, most + 1, Integer.MIN_VALUE, Integer.MAX_VALUE};
        for (int each : values) {
            refuses(call + " with " + each, state, due, ship -> tried.run(ship, each));
        }
    }

    /** The same, and the bounds themselves are taken. */
    private static void range(String call, State state, int least, int most, OnShipWith tried) {
        takes(call + " with " + least, state, ship -> tried.run(ship, least));
        takes(call + " with " + most, state, ship -> tried.run(ship, most));
        outside(call, state, least, most, ARGUMENT, tried);
    }

    // ---- what a ship answers, so that two can be compared

    /** Each kind stays, with what made the ship, below the 512 calls of an object. */
    private static final class Answers {
        static final int KINDS = 5;

        private final List<Long> all = new ArrayList<>();
        private final int kind;

        Answers(CableShip ship, int kind) {
            this.kind = kind;
            switch (kind) {
                case 0:
                    askWhatIs(ship);
                    break;
                case 1:
                    askCells(ship);
                    break;
                case 2:
                    askMetres(ship);
                    break;
                case 3:
                    askTheSea(ship);
                    break;
                default:
                    goOn(ship);
            }
        }

        void compare(String when, Answers due) {
            int size = Math.min(all.size(), due.all.size());
            is(when + ", kind " + kind + ": how much was answered", all.size(), due.all.size());
            for (int i = 0; i < size; i++) {
                if (!all.get(i).equals(due.all.get(i))) {
                    is(when + ", kind " + kind + ", answer " + i, all.get(i), due.all.get(i));
                    return;
                }
            }
        }

        private void add(Question question) {
            long[] got = new long[1];
            Class<?> thrown = thrownBy(() -> got[0] = question.ask());
            all.add(thrown == null ? got[0] : thrown == ARGUMENT ? -1001L : thrown == STATE ? -1002L
                : thrown == INDEX ? -1003L : -1004L);
        }

        private void add(boolean is) {
            all.add(is ? 1L : 0L);
        }

        private void askWhatIs(CableShip ship) {
            add(ship::day);
            add(ship::waves);
            add(ship.canWork());
            askTanksAndLine(ship);
            for (int i = 0; i < 160; i++) {
                int each = i;
                add(() -> ship.thing(each / 4, each % 4));
            }
            add(ship::margin);
            add(ship::earth);
            add(ship.isFed());
            add(ship.works());
            add(ship.isKept());
            askFaults(ship);
            askWays(ship);
            for (int i = 0; i < 12; i++) {
                int each = i;
                add(() -> ship.tension(each % 4, each / 4 * 49));
            }
        }

        private void askTanksAndLine(CableShip ship) {
            for (int i = 0; i < 15; i++) {
                int each = i;
                add(() -> ship.tank(each / 5, each % 5));
            }
            for (int i = 0; i < 8; i++) {
                int each = i;
                add(() -> ship.line(each));
            }
        }

        private void askFaults(CableShip ship) {
            add(ship::faults);
            for (int i = 0; i < 12; i++) {
                int each = i;
                add(() -> ship.ofFault(each / 3, each % 3));
            }
        }

        private void askWays(CableShip ship) {
            for (int i = 0; i < 10; i++) {
                int each = i;
                add(() -> ship.way(each));
                add(() -> ship.isLit(each) ? 1 : 0);
            }
        }

        private void askCells(CableShip ship) {
            for (int i = 0; i < 400; i++) {
                int each = i;
                add(() -> ship.cell(each / 4, each % 4));
            }
        }

        private void askMetres(CableShip ship) {
            int metres = ship.line(0);
            for (int i = 0; i <= 195; i++) {
                int place = i * metres / 195;
                add(() -> ship.metre(place));
                add(() -> ship.metreAnew(place));
            }
        }

        /** How far a sounding erred is told by which ones it outdoes: of the cells that matter those of each kind. */
        private void askTheSea(CableShip ship) {
            for (int i = 0; i < 100; i++) {
                int each = i;
                add(() -> ship.wreck(each, false) ? 1 : 0);
                add(() -> ship.crossing(each, 0));
            }
            int[] errors = {500, 11, 10};
            for (int each : errors) {
                for (int cell = 0; cell < 100; cell = cell < 12 ? cell + 1 : cell + 3) {
                    int sounded = cell;
                    add(() -> ship.sound(sounded, 1000 + each, each));
                }
            }
        }

        private void goOn(CableShip ship) {
            for (int i = 0; i < 3; i++) {
                int tank = i;
                add(() -> ship.takeUp(tank));
                add(() -> ship.lay(12, 3, tank));
                add(() -> ship.mend(1, tank));
            }
            add(ship::repeater);
            add(() -> ship.measure(false, false, 777));
            add(() -> ship.measure(true, true, 888));
            askFaults(ship);
            add(() -> ship.link(0, 1, 1));
            add(() -> ship.demand(0, 1, 1));
            add(() -> ship.demand(0, 1, 5));
            add(() -> ship.demand(0, 1, 3));
            add(() -> ship.dead(1, false) ? 1 : 0);
            add(ship::restore);
            askWays(ship);
            add(() -> ship.fault(SHUNT, 3));
            add(() -> ship.net(2) ? 1 : 0);
            add(() -> ship.make(0, 10, 2));
            for (int i = 0; i < 8; i++) {
                add(() -> ship.pass(1));
                add(ship::waves);
                add(ship.canWork());
                add(() -> ship.takeUp(0));
                add(() -> ship.lay(12, 0, 0));
                add(() -> ship.mend(2, 0));
                askTanksAndLine(ship);
            }
            add(ship::earth);
            add(ship.isFed());
            add(() -> ship.weather(5));
        }
    }

    private static void theStatesThemselves() {
        promise = 28;
        stateIs(State.LAYING, 7, 0, 2, 2);
        stateIs(State.BEHIND_REPEATER, 7, 0, 2, 2);
        stateIs(State.IN_STORM, 7, 1, 2, 2);
        stateIs(State.BUOYED, 7, 1, 2, 2);
        stateIs(State.AT_B, 100, 0, 2, 2);
        stateIs(State.FULL, 100, 0, 4, 10);
        stateIs(State.WORKING, 100, 0, 0, 1);
        stateIs(State.DAY_19999, 5, 0, 0, 0);
        stateIs(State.LAST_DAY, 10, 0, 0, 0);
        is("the line works", State.WORKING.make().works(), true);
        is("the storm", State.IN_STORM.make().waves(), 9);
        is("the busy ship", State.BUOYED_AND_BUSY.make().canWork(), false);
        is("the busy ship at B", State.AT_B_AND_BUSY.make().canWork(), false);
        is("the last day", State.LAST_DAY.make().day(), 20000);
    }

    private static void stateIs(State state, int cells, int buoyed, int faults, int demands) {
        CableShip ship = state.make();
        is(state + ": cells", ship.line(1), cells);
        is(state + ": buoyed", ship.line(6), buoyed);
        is(state + ": faults", ship.faults(), faults);
        fails(state + ": the last demand", demands > 0 ? null : INDEX, () -> ship.way(demands - 1));
        fails(state + ": behind the last demand", INDEX, () -> ship.way(demands));
    }

    // ---- the sea, days

    private static void theSea() {
        promise = 2;
        range("sound of a cell", State.FRESH, 0, 99, (ship, v) -> ship.sound(v, 50, 5));
        range("sound with a depth", State.LAYING, 0, 6000, (ship, v) -> ship.sound(10, v, 5));
        range("sound with an error", State.LAYING, 0, 500, (ship, v) -> ship.sound(10, 50, v));
        outside("sound of a cell", State.LAYING, 0, 99, ARGUMENT, (ship, v) -> ship.sound(v, 50, 5));
        refuses("sound of the first cell", State.LAYING, STATE, ship -> ship.sound(0, 50, 5));
        refuses("sound of the last cell that is laid", State.LAYING, STATE, ship -> ship.sound(6, 50, 5));
        takes("sound of the first one that is not", State.LAYING, ship -> ship.sound(7, 50, 5));
        refuses("sound of the cell that is buoyed", State.BUOYED, STATE, ship -> ship.sound(6, 50, 5));
        refuses("sound of the cell at B", State.AT_B, STATE, ship -> ship.sound(99, 50, 5));
        promise = 3;
        range("wreck in a cell", State.LAYING, 0, 99, (ship, v) -> ship.wreck(v, true));
        outside("no wreck in a cell", State.LAYING, 0, 99, ARGUMENT, (ship, v) -> ship.wreck(v, false));
        promise = 4;
        range("crossing in a cell", State.LAYING, 0, 99, (ship, v) -> ship.crossing(v, 1));
        range("crossing", State.LAYING, 0, 2, (ship, v) -> ship.crossing(60, v));
    }

    private static void theDays() {
        promise = 5;
        range("weather", State.FRESH, 0, 65536, CableShip::weather);
        refuses("weather on the day 1", State.LAYING, STATE, ship -> ship.weather(7));
        outside("weather on the day 1", State.LAYING, 0, 65536, ARGUMENT, CableShip::weather);
        promise = 6;
        range("pass", State.FRESH, 1, 400, CableShip::pass);
        range("pass on the way", State.LAYING, 1, 400, CableShip::pass);
        takes("pass to the day 20000", State.DAY_19999, ship -> ship.pass(1));
        refuses("pass to the day 20001", State.DAY_19999, STATE, ship -> ship.pass(2));
        refuses("pass behind the last day", State.LAST_DAY, STATE, ship -> ship.pass(1));
        refuses("pass far behind the last day", State.LAST_DAY, STATE, ship -> ship.pass(400));
    }

    // ---- cable, laying

    private static void cable() {
        promise = 7;
        range("make of a type", State.LAYING, 0, 3, (ship, v) -> ship.make(v, 10, 0));
        range("make of metres", State.LAYING, 1, 90000, (ship, v) -> ship.make(1, v, 0));
        range("make for a tank", State.LAYING, 0, 2, (ship, v) -> ship.make(1, 10, v));
        refuses("make of a 31st piece", State.FULL, STATE, ship -> ship.make(1, 10, 0));
        promise = 11;
        range("feed from A", State.AT_B, 0, 9999, (ship, v) -> ship.feed(v, 1));
        range("feed from B", State.AT_B, 0, 9999, (ship, v) -> ship.feed(1, v));
    }

    private static void laying() {
        promise = 8;
        range("lay of cells", State.LAYING, 1, 12, (ship, v) -> ship.lay(v, 5, 0));
        range("lay with a slack", State.LAYING, 0, 50, (ship, v) -> ship.lay(1, v, 0));
        range("lay from a tank", State.LAYING, 0, 2, (ship, v) -> ship.lay(1, 5, v));
        refuses("lay at B", State.AT_B, STATE, ship -> ship.lay(1, 0, 0));
        refuses("lay at B from an empty tank", State.FULL, STATE, ship -> ship.lay(12, 50, 1));
        takes("lay when buoyed", State.BUOYED, ship -> ship.lay(1, 0, 0));
        takes("lay when the ship cannot work", State.IN_STORM, ship -> ship.lay(1, 0, 0));
    }

    private static void repeaters() {
        promise = 9;
        refuses("repeater without anything", State.FRESH, STATE, CableShip::repeater);
        refuses("repeater when buoyed", State.BUOYED, STATE, CableShip::repeater);
        refuses("repeater in the storm", State.IN_STORM, STATE, CableShip::repeater);
        refuses("repeater behind a repeater", State.BEHIND_REPEATER, STATE, CableShip::repeater);
        takes("repeater", State.LAYING, CableShip::repeater);
        takes("repeater at B", State.AT_B, CableShip::repeater);
        takes("repeater by a busy ship", State.AT_B_AND_BUSY, CableShip::repeater);
    }

    private static void takingUp() {
        promise = 10;
        takes("takeUp", State.BUOYED, ship -> ship.takeUp(0));
        outside("takeUp", State.BUOYED, 0, 2, ARGUMENT, CableShip::takeUp);
        refuses("takeUp of a line that goes on", State.LAYING, STATE, ship -> ship.takeUp(0));
        refuses("takeUp of nothing", State.FRESH, STATE, ship -> ship.takeUp(0));
        refuses("takeUp at B", State.AT_B, STATE, ship -> ship.takeUp(0));
        refuses("takeUp in a storm", State.IN_STORM, STATE, ship -> ship.takeUp(0));
        refuses("takeUp by a busy ship", State.BUOYED_AND_BUSY, STATE, ship -> ship.takeUp(0));
        refuses("takeUp of 199 metres", State.BUOYED, STATE, ship -> ship.takeUp(2));
        refuses("takeUp of types that differ too much", State.BUOYED, STATE, ship -> ship.takeUp(1));
    }

    // ---- faults, mending

    private static void faults() {
        promise = 12;
        range("fault of a kind", State.LAYING, 0, 1, (ship, v) -> ship.fault(v, 20));
        range("fault at a place", State.AT_B, 0, 100004, (ship, v) -> ship.fault(BREAK, v));
        outside("fault at a place of a shorter line", State.BUOYED, 0, State.BUOYED.make().line(0) - 1, ARGUMENT,
            (ship, v) -> ship.fault(SHUNT, v));
        refuses("fault in nothing", State.FRESH, ARGUMENT, ship -> ship.fault(SHUNT, 0));
        refuses("a fifth fault", State.FULL, STATE, ship -> ship.fault(SHUNT, 0));
        promise = 13;
        range("net over a cell", State.AT_B, 0, 99, CableShip::net);
        outside("net over a cell", State.LAYING, 0, 99, ARGUMENT, CableShip::net);
        refuses("net, with four faults", State.FULL, STATE, ship -> ship.net(0));
        promise = 14;
        range("measure with a draw", State.AT_B, 0, 65536, (ship, v) -> ship.measure(false, true, v));
        outside("measure from B", State.AT_B, 0, 65536, ARGUMENT, (ship, v) -> ship.measure(true, false, v));
        refuses("measure on the way", State.LAYING, STATE, ship -> ship.measure(false, true, 0));
        refuses("measure of a buoyed line", State.BUOYED, STATE, ship -> ship.measure(true, true, 0));
        refuses("measure of nothing", State.FRESH, STATE, ship -> ship.measure(false, false, 0));
    }

    private static void mending() {
        promise = 15;
        range("mend at a cell", State.AT_B, 0, 99, (ship, v) -> ship.mend(v, 0));
        outside("mend at a cell", State.BUOYED, 0, 99, ARGUMENT, (ship, v) -> ship.mend(v, 0));
        outside("mend from a tank", State.AT_B, 0, 2, ARGUMENT, (ship, v) -> ship.mend(0, v));
        refuses("mend on the way", State.LAYING, STATE, ship -> ship.mend(0, 0));
        refuses("mend of nothing", State.FRESH, STATE, ship -> ship.mend(0, 0));
        refuses("mend in a storm", State.IN_STORM, STATE, ship -> ship.mend(0, 0));
        refuses("mend by a busy ship", State.AT_B_AND_BUSY, STATE, ship -> ship.mend(50, 0));
        refuses("mend by a busy ship, buoyed", State.BUOYED_AND_BUSY, STATE, ship -> ship.mend(0, 0));
        takes("mend next to the last cell, buoyed", State.BUOYED, ship -> ship.mend(5, 0));
        refuses("mend at the last cell, buoyed", State.BUOYED, STATE, ship -> ship.mend(6, 0));
        refuses("mend at a cell that is not laid", State.BUOYED, STATE, ship -> ship.mend(7, 0));
        refuses("mend at B's cell, which is not laid", State.BUOYED, STATE, ship -> ship.mend(99, 0));
        refuses("mend with 1199 metres", State.AT_B, STATE, ship -> ship.mend(50, 2));
        refuses("mend with types that differ too much", State.AT_B, STATE, ship -> ship.mend(50, 1));
    }

    // ---- other lines

    private static void otherLines() {
        promise = 16;
        range("link from a station", State.LAYING, 0, 3, (ship, v) -> ship.link(v, v == 0 ? 1 : 0, 9));
        range("link to a station", State.LAYING, 0, 3, (ship, v) -> ship.link(v == 2 ? 1 : 2, v, 9));
        range("link with a capacity", State.LAYING, 1, 20, (ship, v) -> ship.link(0, 3, v));
        for (int i = 0; i < 4; i++) {
            int station = i;
            refuses("link of one station", State.LAYING, ARGUMENT, ship -> ship.link(station, station, 9));
        }
        refuses("a seventh link", State.FULL, STATE, ship -> ship.link(0, 3, 9));
        promise = 17;
        takes("dead, the first one", State.LAYING, ship -> ship.dead(1, true));
        takes("dead, the last one", State.LAYING, ship -> ship.dead(2, true));
        outside("dead", State.LAYING, 0, 2, INDEX, (ship, v) -> ship.dead(v, true));
        outside("no longer dead", State.FULL, 0, 5, INDEX, (ship, v) -> ship.dead(v, false));
        refuses("dead, this line", State.LAYING, ARGUMENT, ship -> ship.dead(0, true));
        refuses("no longer dead, this line", State.AT_B, ARGUMENT, ship -> ship.dead(0, false));
        refuses("dead, this line that works", State.WORKING, ARGUMENT, ship -> ship.dead(0, true));
        outside("dead, of those beside this line", State.WORKING, 0, 1, INDEX, (ship, v) -> ship.dead(v, true));
        promise = 18;
        range("demand from a station", State.LAYING, 0, 3, (ship, v) -> ship.demand(v, v == 0 ? 1 : 0, 2));
        range("demand to a station", State.LAYING, 0, 3, (ship, v) -> ship.demand(v == 2 ? 1 : 2, v, 2));
        range("demand of waves", State.LAYING, 1, 8, (ship, v) -> ship.demand(0, 3, v));
        for (int i = 0; i < 4; i++) {
            int station = i;
            refuses("demand of one station", State.LAYING, ARGUMENT, ship -> ship.demand(station, station, 2));
        }
        outside("demand of waves over this line", State.WORKING, 1, 8, ARGUMENT, (ship, v) -> ship.demand(0, 1, v));
        refuses("an eleventh demand", State.FULL, STATE, ship -> ship.demand(0, 1, 1));
        promise = 20;
        outside("way", State.LAYING, 0, 1, INDEX, CableShip::way);
        outside("way", State.FULL, 0, 9, INDEX, CableShip::way);
        refuses("way without a demand", State.FRESH, INDEX, ship -> ship.way(0));
        promise = 21;
        outside("isLit", State.LAYING, 0, 1, INDEX, CableShip::isLit);
        outside("isLit", State.FULL, 0, 9, INDEX, CableShip::isLit);
        refuses("isLit without a demand", State.FRESH, INDEX, ship -> ship.isLit(0));
    }

    // ---- questions

    private static void questions() {
        promise = 25;
        range("cell", State.LAYING, 0, 99, (ship, v) -> ship.cell(v, 3));
        range("cell, what", State.LAYING, 0, 3, (ship, v) -> ship.cell(0, v));
        promise = 26;
        range("tension of a type", State.LAYING, 0, 3, (ship, v) -> ship.tension(v, 0));
        range("tension in a cell", State.LAYING, 0, 99, (ship, v) -> ship.tension(0, v));
        promise = 27;
        range("tank", State.LAYING, 0, 2, (ship, v) -> ship.tank(v, 0));
        range("tank, what", State.LAYING, 0, 4, (ship, v) -> ship.tank(0, v));
        range("an empty tank, what", State.FRESH, 0, 4, (ship, v) -> ship.tank(1, v));
        promise = 28;
        range("line", State.LAYING, 0, 7, CableShip::line);
        range("an empty line", State.FRESH, 0, 7, CableShip::line);
    }

    private static void questionsOfRows() {
        promise = 29;
        takes("thing, the first", State.AT_B, ship -> ship.thing(0, 0));
        takes("thing, the last", State.AT_B, ship -> ship.thing(6, 3));
        outside("thing", State.AT_B, 0, 6, INDEX, (ship, v) -> ship.thing(v, 0));
        range("thing, what", State.AT_B, 0, 3, (ship, v) -> ship.thing(6, v));
        range("thing, what of a repeater", State.AT_B, 0, 3, (ship, v) -> ship.thing(1, v));
        refuses("thing of nothing", State.FRESH, INDEX, ship -> ship.thing(0, 0));
        promise = 30;
        takes("metre, the first", State.AT_B, ship -> ship.metre(0));
        takes("metre, the last", State.AT_B, ship -> ship.metre(100004));
        outside("metre", State.AT_B, 0, 100004, INDEX, CableShip::metre);
        refuses("metre of nothing", State.FRESH, INDEX, ship -> ship.metre(0));
        promise = 31;
        takes("metreAnew, the first", State.AT_B, ship -> ship.metreAnew(0));
        takes("metreAnew, the last", State.AT_B, ship -> ship.metreAnew(100004));
        outside("metreAnew", State.AT_B, 0, 100004, INDEX, CableShip::metreAnew);
        outside("metreAnew, of a buoyed line", State.BUOYED, 0, State.BUOYED.make().line(0) - 1, INDEX,
            CableShip::metreAnew);
        refuses("metreAnew of nothing", State.FRESH, INDEX, ship -> ship.metreAnew(0));
        promise = 36;
        takes("ofFault, the first", State.LAYING, ship -> ship.ofFault(0, 0));
        takes("ofFault, the last", State.LAYING, ship -> ship.ofFault(1, 2));
        outside("ofFault", State.LAYING, 0, 1, INDEX, (ship, v) -> ship.ofFault(v, 0));
        outside("ofFault, of four", State.FULL, 0, 3, INDEX, (ship, v) -> ship.ofFault(v, 0));
        range("ofFault, what", State.LAYING, 0, 2, (ship, v) -> ship.ofFault(1, v));
        refuses("ofFault without any", State.FRESH, INDEX, ship -> ship.ofFault(0, 0));
    }

    /** "If several exceptions apply to a call, the one that its comment lists first is thrown." */
    private static void wherePrecedenceCounts() {
        promise = 2;
        refuses("sound of a laid cell, too deep", State.LAYING, ARGUMENT, ship -> ship.sound(0, 6001, 0));
        promise = 5;
        refuses("weather too late, of a wrong seed", State.LAYING, ARGUMENT, ship -> ship.weather(65537));
        promise = 6;
        refuses("pass too far, of too many days", State.LAST_DAY, ARGUMENT, ship -> ship.pass(401));
        refuses("pass too far, of far too many days", State.LAST_DAY, ARGUMENT, ship -> ship.pass(Integer.MAX_VALUE));
        promise = 7;
        refuses("make of a 31st piece of no metres", State.FULL, ARGUMENT, ship -> ship.make(1, 0, 0));
        promise = 8;
        refuses("lay at B of no cells", State.AT_B, ARGUMENT, ship -> ship.lay(0, 0, 0));
        promise = 10;
        refuses("takeUp of what goes on, from no tank", State.LAYING, ARGUMENT, ship -> ship.takeUp(3));
        promise = 12;
        refuses("a fifth fault behind the line", State.FULL, ARGUMENT, ship -> ship.fault(SHUNT, 100005));
        promise = 13;
        refuses("net over no cell, with four faults", State.FULL, ARGUMENT, ship -> ship.net(100));
        promise = 14;
        refuses("measure on the way, with a wrong draw", State.LAYING, ARGUMENT,
            ship -> ship.measure(false, false, 65537));
        promise = 15;
        refuses("mend on the way at no cell", State.LAYING, ARGUMENT, ship -> ship.mend(100, 0));
        refuses("mend by a busy ship from no tank", State.AT_B_AND_BUSY, ARGUMENT, ship -> ship.mend(0, 3));
        promise = 16;
        refuses("a seventh link of no capacity", State.FULL, ARGUMENT, ship -> ship.link(0, 1, 0));
        promise = 18;
        refuses("an eleventh demand of no waves", State.FULL, ARGUMENT, ship -> ship.demand(0, 1, 0));
        promise = 29;
        refuses("no thing, and wrongly asked", State.AT_B, INDEX, ship -> ship.thing(7, 4));
        refuses("no thing of nothing, and wrongly asked", State.FRESH, INDEX, ship -> ship.thing(-1, -1));
        promise = 36;
        refuses("no fault, and wrongly asked", State.LAYING, INDEX, ship -> ship.ofFault(2, 3));
    }
}
