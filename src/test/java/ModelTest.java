import java.util.ArrayList;
import java.util.List;

/**
 * Runs of drawn calls against a plain model that keeps each metre of the line by itself.
 * Arguments: the path of the class (not used), then how many runs (300 without it), and the first one's number.
 */
public final class ModelTest {
    private static final int JOINT = -1, REPEATER = -2;
    private static final long ARGUMENT = -1001, STATE = -1002, INDEX = -1003, OTHER = -1004;

    public static void main(String[] args) {
        int runs = args.length > 1 ? Integer.parseInt(args[1]) : 300;
        int first = args.length > 2 ? Integer.parseInt(args[2]) : 0;
        for (int run = first; run < first + runs; run++) {
            String fault = new Run(run).play();
            if (fault != null) {
                System.out.println("run " + run + ": " + fault);
                System.exit(1);
            }
        }
    }

    private interface Call {
        long run();
    }

    private static long answer(Call call) {
        try {
            return call.run();
        } catch (IllegalArgumentException thrown) {
            return ARGUMENT;
        } catch (IllegalStateException thrown) {
            return STATE;
        } catch (IndexOutOfBoundsException thrown) {
            return thrown.getClass() == IndexOutOfBoundsException.class ? INDEX : OTHER;
        } catch (RuntimeException thrown) {
            return OTHER;
        }
    }

    private static long bit(boolean is) {
        return is ? 1 : 0;
    }

    /** One object, one model, and the calls that both get. */
    private static final class Run {
        private final CableShip ship = new CableShip();
        private final Model model = new Model();
        private final StringBuilder log = new StringBuilder();
        private final boolean isWild;
        private final boolean isAcross;
        private long state;

        Run(int number) {
            state = number * 2654435761L + 12345;
            isWild = number % 5 == 0;
            isAcross = number % 5 > 2;
        }

        private int draw(int bound) {
            state = state * 6364136223846793005L + 1442695040888963407L;
            return (int) ((state >>> 33) % bound);
        }

        private int in(int least, int most) {
            return least + draw(most - least + 1);
        }

        /** Mostly a right argument, seldom one at the edges or outside of them. */
        private int arg(int least, int most) {
            int way = draw(isWild ? 10 : 60);
            if (way == 0) {
                return least - 1;
            }
            if (way == 1) {
                return most + 1;
            }
            if (way == 2 && draw(4) == 0) {
                return draw(2) == 0 ? Integer.MIN_VALUE : Integer.MAX_VALUE;
            }
            if (way == 2) {
                return least;
            }
            return way == 3 ? most : in(least, most);
        }

        String play() {
            begin();
            String early = isAcross ? layAcross() : null;
            if (early != null) {
                return log + "\n" + early;
            }
            for (int i = 0; i < 250; i++) {
                String fault = step();
                if (fault == null && i % 3 == 0) {
                    fault = ask();
                }
                if (fault != null) {
                    return log + "\n" + fault;
                }
            }
            String fault = askAll();
            return fault == null ? null : log + "\n" + fault;
        }

        private void begin() {
            int seed = in(0, 65536);
            ship.weather(seed);
            model.weather(seed);
            log.append("weather(").append(seed).append(") ");
            int depth = 100;
            for (int i = 0; i < 100 && !isWild; i++) {
                if (draw(3) == 0) {
                    depth = Math.max(0, depth + in(-250, isAcross ? 250 : 700));
                    depth = Math.min(depth, isAcross ? 900 : 6000);
                    int error = in(0, 50);
                    ship.sound(i, depth, error);
                    model.sound(i, depth, error);
                    log.append("sound(").append(i).append(',').append(depth).append(',').append(error).append(") ");
                }
            }
            int type = isAcross ? in(1, 2) : in(0, 3);
            for (int i = 0; i < (isAcross ? 12 : 8); i++) {
                int next = Math.max(isAcross ? 1 : 0, Math.min(3, type + (draw(3) == 0 ? in(-1, 1) : 0)));
                int metres = draw(3) == 0 ? in(200, 9000) : in(20000, 90000);
                int tank = draw(2) == 0 ? 0 : in(0, 2);
                ship.make(next, metres, tank);
                model.make(next, metres, tank);
                log.append("make(").append(next).append(',').append(metres).append(',').append(tank).append(") ");
            }
        }

        /** Most drawn calls alone would not come to B; these do, through storms and all. */
        private String layAcross() {
            String fault = both("feed(2000,2000)", () -> feedShip(2000, 2000), () -> model.feed(2000, 2000));
            for (int i = 0; i < 90 && fault == null && model.cells < 100; i++) {
                int tank = draw(10) == 0 ? in(0, 2) : 0, cells = in(1, 12), slack = in(0, 9);
                fault = both("takeUp(" + tank + ")", () -> ship.takeUp(tank), () -> model.takeUp(tank));
                if (fault == null) {
                    fault = both("lay(" + cells + "," + slack + "," + tank + ")",
                        () -> ship.lay(cells, slack, tank), () -> model.lay(cells, slack, tank));
                }
                if (fault == null && draw(3) == 0) {
                    fault = both("repeater()", () -> ship.repeater(), () -> model.repeater());
                }
                if (fault == null && draw(2) == 0) {
                    fault = both("pass(1)", () -> ship.pass(1), () -> model.pass(1));
                }
            }
            return fault;
        }

        private String compare(String call, long got, long due) {
            return got == due ? null : call + " answered " + got + ", due is " + due;
        }

        private String both(String call, Call real, Call plain) {
            log.append(call).append(' ');
            return compare(call, answer(real), answer(plain));
        }

        private String step() {
            int way = draw(100);
            if (way < 25) {
                int cells = arg(1, 12), slack = arg(0, 50), tank = arg(0, 2);
                return both("lay(" + cells + "," + slack + "," + tank + ")",
                    () -> ship.lay(cells, slack, tank), () -> model.lay(cells, slack, tank));
            }
            if (way < 40) {
                int days = draw(isWild ? 10 : 80) == 0 ? arg(1, 400) : in(1, 3);
                return both("pass(" + days + ")", () -> ship.pass(days), () -> model.pass(days));
            }
            if (way < 50) {
                int tank = arg(0, 2);
                return both("takeUp(" + tank + ")", () -> ship.takeUp(tank), () -> model.takeUp(tank));
            }
            if (way < 55) {
                return both("repeater()", () -> ship.repeater(), () -> model.repeater());
            }
            if (way < 70) {
                int most = Math.max(0, Math.min(99, model.cells - 1));
                int cell = draw(3) == 0 ? cellAtRepeater() : draw(4) == 0 ? draw(2) * most : draw(3) == 0 ? in(Math.max(0, most - 4), most) : arg(0, most);
                int tank = arg(0, 2);
                return both("mend(" + cell + "," + tank + ")", () -> ship.mend(cell, tank), () -> model.mend(cell, tank));
            }
            if (way < 74) {
                int kind = arg(0, 1), place = placeOfInterest();
                return both("fault(" + kind + "," + place + ")",
                    () -> ship.fault(kind, place), () -> model.fault(kind, place));
            }
            if (way < 80) {
                boolean fromB = draw(2) == 0, voltage = draw(2) == 0;
                int seed = arg(0, 65536);
                return both("measure(" + fromB + "," + voltage + "," + seed + ")",
                    () -> ship.measure(fromB, voltage, seed), () -> model.measure(fromB, voltage, seed));
            }
            return otherStep(way);
        }

        private int cellAtRepeater() {
            int near = draw(2);
            for (int i = draw(100); i < model.cells; i++) {
                if (model.hasRepeaterAt(model.begin(i))) {
                    return Math.max(0, i - near);
                }
            }
            return arg(0, 99);
        }

        private int placeOfInterest() {
            int metres = model.metres();
            if (draw(2) == 0 && model.cells > 0) {
                return model.begin(in(0, model.cells - 1)) - draw(3) + 1;
            }
            return arg(0, Math.max(0, metres - 1));
        }

        private String otherStep(int way) {
            if (way < 83) {
                int type = arg(0, 3), metres = draw(2) == 0 ? in(1, 3000) : arg(1, 90000), tank = arg(0, 2);
                return both("make(" + type + "," + metres + "," + tank + ")",
                    () -> ship.make(type, metres, tank), () -> model.make(type, metres, tank));
            }
            if (way < 85) {
                int a = arg(0, draw(2) == 0 ? 1500 : 9999), b = arg(0, draw(2) == 0 ? 1500 : 9999);
                return both("feed(" + a + "," + b + ")", () -> feedShip(a, b), () -> model.feed(a, b));
            }
            if (way < 86) {
                int cell = arg(0, 99);
                return both("net(" + cell + ")", () -> bit(ship.net(cell)), () -> bit(model.net(cell)));
            }
            if (way < 88) {
                int cell = arg(0, 99), depth = arg(0, 6000), error = arg(0, 60);
                return both("sound(" + cell + "," + depth + "," + error + ")",
                    () -> ship.sound(cell, depth, error), () -> model.sound(cell, depth, error));
            }
            if (way < 89) {
                int cell = arg(0, 99);
                boolean is = draw(4) == 0;
                return both("wreck(" + cell + "," + is + ")",
                    () -> bit(ship.wreck(cell, is)), () -> bit(model.wreck(cell, is)));
            }
            if (way < 90) {
                int cell = arg(0, 99), what = arg(0, 2);
                return both("crossing(" + cell + "," + what + ")",
                    () -> ship.crossing(cell, what), () -> model.crossing(cell, what));
            }
            if (way < 91) {
                int seed = arg(0, 65536);
                return both("weather(" + seed + ")", () -> ship.weather(seed), () -> model.weather(seed));
            }
            return netStep(way);
        }

        private long feedShip(int a, int b) {
            ship.feed(a, b);
            return 0;
        }

        private String netStep(int way) {
            if (way < 93) {
                int a = arg(0, 3), b = arg(0, 3), capacity = arg(1, 20);
                return both("link(" + a + "," + b + "," + capacity + ")",
                    () -> ship.link(a, b, capacity), () -> model.link(a, b, capacity));
            }
            if (way < 95) {
                int a = arg(0, 3), b = arg(0, 3), waves = arg(1, 8);
                return both("demand(" + a + "," + b + "," + waves + ")",
                    () -> ship.demand(a, b, waves), () -> model.demand(a, b, waves));
            }
            if (way < 98) {
                int link = arg(0, 5);
                boolean is = draw(2) == 0;
                return both("dead(" + link + "," + is + ")",
                    () -> bit(ship.dead(link, is)), () -> bit(model.dead(link, is)));
            }
            return both("restore()", () -> ship.restore(), () -> model.restore());
        }

        private String ask() {
            int way = draw(16);
            int index = arg(0, 9), what = arg(0, 4), cell = arg(0, 99), place = placeOfInterest();
            switch (way) {
                case 0:
                    return both("way(" + index + ")", () -> ship.way(index), () -> model.way(index));
                case 1:
                    return both("isLit(" + index + ")", () -> bit(ship.isLit(index)), () -> bit(model.isLit(index)));
                case 2:
                    return both("cell(" + cell + "," + what + ")", () -> ship.cell(cell, what), () -> model.cell(cell, what));
                case 3:
                    return both("tension(" + what + "," + cell + ")",
                        () -> ship.tension(what, cell), () -> model.tension(what, cell));
                case 4:
                    int tank = arg(0, 2);
                    return both("tank(" + tank + "," + what + ")", () -> ship.tank(tank, what), () -> model.tank(tank, what));
                case 5:
                    return both("line(" + index + ")", () -> ship.line(index), () -> model.line(index));
                case 6:
                    int thing = arg(0, model.things().size());
                    return both("thing(" + thing + "," + what + ")",
                        () -> ship.thing(thing, what), () -> model.thing(thing, what));
                case 7:
                    return both("metre(" + place + ")", () -> ship.metre(place), () -> model.metre(place));
                case 8:
                    return both("metreAnew(" + place + ")", () -> ship.metreAnew(place), () -> model.metre(place));
                case 9:
                    return both("ofFault(" + (index - 2) + "," + what + ")",
                        () -> ship.ofFault(index - 2, what), () -> model.ofFault(index - 2, what));
                case 10:
                    return both("margin()", () -> ship.margin(), () -> model.margin());
                case 11:
                    return both("earth()", () -> ship.earth(), () -> model.earth());
                case 12:
                    return both("isFed()", () -> bit(ship.isFed()), () -> bit(model.isFed()));
                case 13:
                    return both("works()", () -> bit(ship.works()), () -> bit(model.works()));
                case 14:
                    return both("canWork()", () -> bit(ship.canWork()), () -> bit(model.canWork()));
                default:
                    return both("isKept()", () -> bit(ship.isKept()), () -> 1);
            }
        }

        private String askAll() {
            String fault = null;
            for (int i = 0; i < 8 && fault == null; i++) {
                int what = i;
                fault = both("line(" + i + ")", () -> ship.line(what), () -> model.line(what));
            }
            int things = model.things().size();
            for (int i = 0; i < 4 * things && fault == null; i++) {
                int each = i;
                fault = compare("thing(" + i / 4 + "," + i % 4 + ")",
                    answer(() -> ship.thing(each / 4, each % 4)), answer(() -> model.thing(each / 4, each % 4)));
            }
            for (int i = 0; i < 400 && fault == null; i++) {
                int each = i;
                fault = compare("cell(" + i / 4 + "," + i % 4 + ")",
                    answer(() -> ship.cell(each / 4, each % 4)), answer(() -> model.cell(each / 4, each % 4)));
            }
            for (int i = 0; i < 15 && fault == null; i++) {
                int each = i;
                fault = compare("tank(" + i / 5 + "," + i % 5 + ")",
                    answer(() -> ship.tank(each / 5, each % 5)), answer(() -> model.tank(each / 5, each % 5)));
            }
            for (int i = 0; i < 15 && fault == null; i++) {
                int each = i;
                fault = compare("ofFault(" + i / 3 + "," + i % 3 + ")",
                    answer(() -> ship.ofFault(each / 3, each % 3)), answer(() -> model.ofFault(each / 3, each % 3)));
            }
            for (int i = 0; i < 10 && fault == null; i++) {
                int each = i;
                fault = both("way(" + i + ")", () -> ship.way(each), () -> model.way(each));
                if (fault == null) {
                    fault = both("isLit(" + i + ")", () -> bit(ship.isLit(each)), () -> bit(model.isLit(each)));
                }
            }
            for (int i = 0; i < model.metres() && fault == null; i += 97) {
                fault = compare("metre(" + i + ")", ship.metre(i), model.metre(i));
                if (fault == null) {
                    fault = compare("metreAnew(" + i + ")", ship.metreAnew(i), model.metre(i));
                }
            }
            return fault == null ? compare("waves()", ship.waves(), model.waves()) : fault;
        }
    }

    /** The document once more, as plainly as can be: the line is a list of marks, one for each metre, joint, repeater. */
    private static final class Model {
        private final List<int[]> soundings = new ArrayList<>();
        private final boolean[] wrecks = new boolean[100];
        private final int[] crossings = new int[100];
        private final List<Integer> types = new ArrayList<>();
        private final List<List<int[]>> tanks = List.of(new ArrayList<>(), new ArrayList<>(), new ArrayList<>());
        private final List<int[]> faults = new ArrayList<>();
        private final List<int[]> links = new ArrayList<>();
        private final List<int[]> demands = new ArrayList<>();
        private final List<Integer> cellMetres = new ArrayList<>();
        private int[] marks = new int[0];
        private List<int[]> spans;
        private int seed;
        private int today;
        private int busy;
        private int laid;
        private int waste;
        private int lost;
        private boolean buoyed;
        private int feedA;
        private int feedB;
        int cells;

        Model() {
            links.add(new int[] {0, 1, 8, 0});
        }

        private static void argument(boolean right) {
            if (!right) {
                throw new IllegalArgumentException();
            }
        }

        private static void state(boolean right) {
            if (!right) {
                throw new IllegalStateException();
            }
        }

        private static void index(int index, int size) {
            if (index < 0 || index >= size) {
                throw new IndexOutOfBoundsException();
            }
        }

        private static boolean in(int value, int least, int most) {
            return value >= least && value <= most;
        }

        private int depth(int cell) {
            int best = 1000;
            int depth = 100;
            for (int[] each : soundings) {
                if (each[0] == cell && each[2] <= best) {
                    best = each[2];
                    depth = each[1];
                }
            }
            return depth;
        }

        private int ground(int cell) {
            int before = cell == 0 ? 0 : depth(cell - 1);
            int steep = (depth(cell) - before) * (depth(cell) - before);
            return 1000 + steep / 2000;
        }

        long sound(int cell, int depth, int error) {
            argument(in(cell, 0, 99) && in(depth, 0, 6000) && in(error, 0, 500));
            state(cell >= cells);
            soundings.add(new int[] {cell, depth, error});
            return depth(cell);
        }

        boolean wreck(int cell, boolean is) {
            argument(in(cell, 0, 99));
            boolean was = wrecks[cell];
            wrecks[cell] = is;
            return was;
        }

        long crossing(int cell, int what) {
            argument(in(cell, 0, 99) && in(what, 0, 2));
            int was = crossings[cell];
            crossings[cell] = what;
            return was;
        }

        long weather(int given) {
            argument(in(given, 0, 65536));
            state(today == 0);
            seed = given;
            return waves();
        }

        int waves() {
            long draw = seed;
            for (int i = 0; i < today; i++) {
                draw = (75 * draw + 74) % 65537;
            }
            return (int) (draw % 10);
        }

        boolean canWork() {
            return waves() < 7 && today >= busy;
        }

        long pass(int days) {
            argument(in(days, 1, 400));
            state(today + days <= 20000);
            for (int i = 0; i < days; i++) {
                today++;
                laid = 0;
                if (cells < 100 && !buoyed && waves() == 9) {
                    buoy();
                }
            }
            return today;
        }

        private void buoy() {
            buoyed = true;
            lost = metres() == 0 ? 0 : 200;
            waste += lost;
            int keep = metres() - lost;
            int[] kept = new int[marks.length];
            int size = 0;
            int place = 0;
            for (int mark : marks) {
                if (place < keep) {
                    kept[size++] = mark;
                }
                place += mark >= 0 ? 1 : 0;
            }
            put(java.util.Arrays.copyOf(kept, size));
            if (cells > 0) {
                cellMetres.set(cells - 1, cellMetres.get(cells - 1) - lost);
            }
            faults.removeIf(each -> each[1] >= keep);
            anew();
        }

        private void put(int[] newMarks) {
            marks = newMarks;
            spans = null;
        }

        private void anew() {
            for (int[] each : faults) {
                each[2] = 0;
                each[3] = metres();
            }
        }

        int metres() {
            int sum = 0;
            for (int[] each : things()) {
                sum += each[0] == 0 ? each[3] - each[2] + 1 : 0;
            }
            return sum;
        }

        /** Kind, piece, first and last metre of each thing. */
        List<int[]> things() {
            if (spans != null) {
                return spans;
            }
            spans = new ArrayList<>();
            int[] last = null;
            for (int mark : marks) {
                if (mark < 0) {
                    last = null;
                    spans.add(new int[] {-mark, -1, -1, -1});
                } else if (last != null && last[1] == mark / 100000 && last[3] + 1 == mark % 100000) {
                    last[3]++;
                } else {
                    last = new int[] {0, mark / 100000, mark % 100000, mark % 100000};
                    spans.add(last);
                }
            }
            return spans;
        }

        long make(int type, int metres, int tank) {
            argument(in(type, 0, 3) && in(metres, 1, 90000) && in(tank, 0, 2));
            state(types.size() < 30);
            types.add(type);
            tanks.get(tank).add(new int[] {types.size() - 1, 0, metres});
            return types.size() - 1;
        }

        /** The marks of what would go out of a tank, or null if it has not so many metres. */
        private int[] look(int tank, int metres) {
            int[] out = new int[metres];
            int size = 0;
            List<int[]> stack = tanks.get(tank);
            for (int i = stack.size() - 1; i >= 0; i--) {
                for (int metre = stack.get(i)[1]; metre < stack.get(i)[2] && size < metres; metre++) {
                    out[size++] = 100000 * stack.get(i)[0] + metre;
                }
            }
            return size == metres ? out : null;
        }

        private void goOut(int tank, int metres) {
            List<int[]> stack = tanks.get(tank);
            for (int i = 0; i < metres; i++) {
                int[] top = stack.get(stack.size() - 1);
                top[1]++;
                if (top[1] == top[2]) {
                    stack.remove(stack.size() - 1);
                }
            }
        }

        private int typeOf(int mark) {
            return types.get(mark / 100000);
        }

        private boolean apart(int mark, int other) {
            return Math.abs(typeOf(mark) - typeOf(other)) > 1;
        }

        private boolean fits(int[] out) {
            for (int i = 1; i < out.length; i++) {
                if (apart(out[i - 1], out[i])) {
                    return false;
                }
            }
            return metres() == 0 || out.length == 0 || !apart((int) metre(metres() - 1), out[0]);
        }

        long lay(int wanted, int slack, int tank) {
            argument(in(wanted, 1, 12) && in(slack, 0, 50) && in(tank, 0, 2));
            state(cells < 100);
            int done = 0;
            while (done < wanted && cells < 100 && layCell(slack, tank)) {
                done++;
            }
            return done;
        }

        private boolean layCell(int slack, int tank) {
            if (!canWork() || laid >= 12 || buoyed || wrecks[cells] || crossings[cells] == 1) {
                return false;
            }
            int metres = ground(cells) + ground(cells) * slack / 1000;
            int[] out = look(tank, metres);
            if (out == null || !fits(out)) {
                return false;
            }
            int[] most = {60, 90, 150, 200};
            for (int mark : out) {
                if ((12 - 3 * typeOf(mark)) * depth(cells) / 100 > most[typeOf(mark)]) {
                    return false;
                }
            }
            join(out);
            goOut(tank, metres);
            cells++;
            cellMetres.add(metres);
            laid++;
            return true;
        }

        private void join(int[] out) {
            int[] grown = java.util.Arrays.copyOf(marks, marks.length + 2 * out.length);
            int size = marks.length;
            for (int mark : out) {
                if (size > 0 && grown[size - 1] >= 0 && grown[size - 1] + 1 != mark) {
                    grown[size++] = JOINT;
                }
                grown[size++] = mark;
            }
            put(java.util.Arrays.copyOf(grown, size));
        }

        private void bare(int mark) {
            int[] grown = java.util.Arrays.copyOf(marks, marks.length + 1);
            grown[marks.length] = mark;
            put(grown);
        }

        private long count(int kind) {
            return things().stream().filter(each -> each[0] == kind).count();
        }

        long repeater() {
            state(metres() > 0 && !buoyed && marks[marks.length - 1] != REPEATER);
            bare(REPEATER);
            return count(2);
        }

        long takeUp(int tank) {
            argument(in(tank, 0, 2));
            state(buoyed && canWork());
            int[] out = look(tank, lost);
            state(out != null && fits(out));
            if (lost > 0) {
                bare(JOINT);
                join(out);
                goOut(tank, lost);
                cellMetres.set(cells - 1, cellMetres.get(cells - 1) + lost);
            }
            buoyed = false;
            lost = 0;
            anew();
            return out.length;
        }

        long feed(int a, int b) {
            argument(in(a, 0, 9999) && in(b, 0, 9999));
            feedA = a;
            feedB = b;
            return 0;
        }

        long fault(int kind, int place) {
            argument(in(kind, 0, 1) && in(place, 0, metres() - 1));
            state(faults.size() < 4);
            faults.add(new int[] {kind, place, 0, metres()});
            return faults.size();
        }

        boolean net(int cell) {
            argument(in(cell, 0, 99));
            state(faults.size() < 4);
            if (cell >= cells || depth(cell) >= 300) {
                return false;
            }
            int place = begin(cell) + cellMetres.get(cell) / 2;
            if (typeOf((int) metre(place)) < 2) {
                return false;
            }
            faults.add(new int[] {1, place, 0, metres()});
            return true;
        }

        int begin(int cell) {
            int sum = 0;
            for (int i = 0; i < cell; i++) {
                sum += cellMetres.get(i);
            }
            return sum;
        }

        long measure(boolean fromB, boolean voltage, int draw) {
            argument(in(draw, 0, 65536));
            state(cells == 100);
            int[] found = null;
            int near = 0;
            for (int[] each : faults) {
                int away = fromB ? metres() - each[1] : each[1];
                if ((voltage || each[0] == 1) && (found == null || away < near)) {
                    found = each;
                    near = away;
                }
            }
            if (found == null || !voltage && isBehindRepeater(found[1], fromB)) {
                return -1;
            }
            int times = voltage ? 2 : 1;
            int e = times * (near / 200 + 10);
            int told = Math.max(0, near - e + draw % (2 * e + 1));
            int width = times * (told / 190 + 12);
            int at = fromB ? metres() - told : told;
            found[2] = Math.max(found[2], at - width);
            found[3] = Math.min(found[3], at + width);
            return told;
        }

        boolean hasRepeaterAt(int place) {
            int begin = 0;
            for (int[] each : things()) {
                if (each[0] == 2 && begin == place) {
                    return true;
                }
                begin += each[0] == 0 ? each[3] - each[2] + 1 : 0;
            }
            return false;
        }

        /** Walks from the shore to the metre, looking at each mark. */
        private boolean isBehindRepeater(int place, boolean fromB) {
            int at = 0;
            boolean isAhead = false;
            boolean isBehind = false;
            for (int mark : marks) {
                if (mark == REPEATER && at <= place) {
                    isAhead = true;
                } else if (mark == REPEATER) {
                    isBehind = true;
                }
                at += mark >= 0 ? 1 : 0;
            }
            return fromB ? isBehind : isAhead;
        }

        long mend(int cell, int tank) {
            argument(in(cell, 0, 99) && in(tank, 0, 2));
            state(canWork() && (cells == 100 || buoyed) && cell < cells && !(buoyed && cell == cells - 1));
            int begin = begin(cell);
            int old = cellMetres.get(cell);
            int end = begin + old;
            int[] out = look(tank, old + 2 * depth(cell));
            state(out != null);
            for (int i = 1; i < out.length; i++) {
                state(!apart(out[i - 1], out[i]));
            }
            state(begin == 0 || !apart((int) metre(begin - 1), out[0]));
            state(end == metres() || !apart((int) metre(end), out[out.length - 1]));
            exchange(begin, end, out);
            goOut(tank, out.length);
            waste += old;
            cellMetres.set(cell, out.length);
            busy = today + 3 + depth(cell) / 1000;
            int before = faults.size();
            faults.removeIf(each -> in(each[1], begin, end - 1));
            for (int[] each : faults) {
                each[1] += each[1] >= end ? out.length - old : 0;
            }
            anew();
            return before - faults.size();
        }

        private void exchange(int begin, int end, int[] out) {
            List<Integer> head = new ArrayList<>();
            List<Integer> tail = new ArrayList<>();
            int place = 0;
            for (int mark : marks) {
                boolean isAhead = mark == JOINT || mark >= 0 ? place < begin : place <= begin;
                boolean isBehind = mark == JOINT ? place > end : place >= end;
                if (isAhead) {
                    head.add(mark);
                } else if (isBehind) {
                    tail.add(mark);
                }
                place += mark >= 0 ? 1 : 0;
            }
            int[] all = new int[head.size() + tail.size() + 2 * out.length + 2];
            int size = 0;
            for (int mark : head) {
                all[size++] = mark;
            }
            all[size++] = JOINT;
            for (int i = 0; i < out.length; i++) {
                if (i > 0 && out[i] != out[i - 1] + 1) {
                    all[size++] = JOINT;
                }
                all[size++] = out[i];
            }
            all[size++] = JOINT;
            for (int mark : tail) {
                all[size++] = mark;
            }
            put(java.util.Arrays.copyOf(all, size));
        }

        long link(int a, int b, int capacity) {
            argument(in(a, 0, 3) && in(b, 0, 3) && a != b && in(capacity, 1, 20));
            state(links.size() < 6);
            links.add(new int[] {a, b, capacity, 0});
            return links.size() - 1;
        }

        boolean dead(int link, boolean is) {
            index(link, links.size());
            argument(link != 0);
            boolean was = links.get(link)[3] == 1;
            links.get(link)[3] = is ? 1 : 0;
            return was;
        }

        private boolean isDead(int link) {
            return link == 0 ? !works() : links.get(link)[3] == 1;
        }

        long demand(int a, int b, int waves) {
            argument(in(a, 0, 3) && in(b, 0, 3) && a != b && in(waves, 1, 8));
            state(demands.size() < 10);
            int[] made = {a, b, waves, 0};
            made[3] = find(made);
            demands.add(made);
            return demands.size() - 1;
        }

        /** All rows of one, of two and of three links, in their order. */
        private int find(int[] demand) {
            int size = links.size();
            for (int length = 1; length <= 3; length++) {
                int all = length == 1 ? size : length == 2 ? size * size : size * size * size;
                for (int code = 0; code < all; code++) {
                    int[] row = length == 1 ? new int[] {code} : length == 2 ? new int[] {code / size, code % size}
                        : new int[] {code / size / size, code / size % size, code % size};
                    int bits = follow(row, demand);
                    if (bits != 0) {
                        return bits;
                    }
                }
            }
            return 0;
        }

        private int follow(int[] row, int[] demand) {
            int station = demand[0];
            int bits = 0;
            for (int link : row) {
                int[] each = links.get(link);
                if (isDead(link) || free(link) < demand[2] || each[0] != station && each[1] != station) {
                    return 0;
                }
                station = each[0] + each[1] - station;
                bits |= 1 << link;
            }
            return station == demand[1] ? bits : 0;
        }

        private int free(int link) {
            int free = links.get(link)[2];
            for (int[] each : demands) {
                free -= (each[3] & 1 << link) != 0 ? each[2] : 0;
            }
            return free;
        }

        long restore() {
            for (int[] each : demands) {
                if (!lit(each)) {
                    each[3] = 0;
                }
            }
            int dark = 0;
            for (int[] each : demands) {
                each[3] = each[3] == 0 ? find(each) : each[3];
                dark += each[3] == 0 ? 1 : 0;
            }
            return dark;
        }

        private boolean lit(int[] demand) {
            for (int i = 0; i < links.size(); i++) {
                if ((demand[3] & 1 << i) != 0 && isDead(i)) {
                    return false;
                }
            }
            return demand[3] != 0;
        }

        long way(int demand) {
            index(demand, demands.size());
            return demands.get(demand)[3];
        }

        boolean isLit(int demand) {
            index(demand, demands.size());
            return lit(demands.get(demand));
        }

        long cell(int cell, int what) {
            argument(in(cell, 0, 99) && in(what, 0, 3));
            if (what < 2) {
                return what == 0 ? depth(cell) : ground(cell);
            }
            return cell >= cells ? -1 : what == 2 ? begin(cell) : cellMetres.get(cell);
        }

        long tension(int type, int cell) {
            argument(in(type, 0, 3) && in(cell, 0, 99));
            return (12 - 3 * type) * depth(cell) / 100;
        }

        long tank(int tank, int what) {
            argument(in(tank, 0, 2) && in(what, 0, 4));
            List<int[]> stack = tanks.get(tank);
            if (what == 0) {
                return stack.stream().mapToInt(each -> each[2] - each[1]).sum();
            }
            if (what == 1) {
                return stack.size();
            }
            if (stack.isEmpty()) {
                return -1;
            }
            int[] top = stack.get(stack.size() - 1);
            return what == 2 ? types.get(top[0]) : what == 3 ? top[0] : top[1];
        }

        long line(int what) {
            argument(in(what, 0, 7));
            long[] all = {metres(), cells, things().size(), count(1), count(2), waste, bit(buoyed), lost};
            return all[what];
        }

        long thing(int thing, int what) {
            index(thing, things().size());
            argument(in(what, 0, 3));
            return things().get(thing)[what];
        }

        long metre(int place) {
            index(place, metres());
            int begin = 0;
            for (int[] each : things()) {
                int length = each[0] == 0 ? each[3] - each[2] + 1 : 0;
                if (place < begin + length) {
                    return 100000 * each[1] + each[2] + place - begin;
                }
                begin += length;
            }
            return OTHER;
        }

        long margin() {
            int signal = 3000;
            int least = Integer.MAX_VALUE;
            for (int[] each : things()) {
                if (each[0] == 2) {
                    least = Math.min(least, signal);
                    signal = Math.min(3000, signal + 1200);
                } else {
                    signal -= each[0] == 1 ? 5 : (each[3] - each[2] + 1) * (100 + today / 365) / 5000;
                }
            }
            return Math.min(least, signal) - 1500;
        }

        /** The drop of what lies from one place up to another; of repeaters those at the first place do not count. */
        private int drop(int from, int to) {
            int begin = 0;
            int drop = 0;
            for (int[] each : things()) {
                if (each[0] == 2) {
                    drop += begin > from && begin <= to ? 40 : 0;
                } else if (each[0] == 0) {
                    int end = begin + each[3] - each[2] + 1;
                    drop += Math.max(0, Math.min(end, to) - Math.max(begin, from)) / 100;
                    begin = end;
                }
            }
            return drop;
        }

        /** Tries each place, from the last one on. */
        long earth() {
            int place = metres();
            int begin = 0;
            int drop = 0;
            for (int[] each : things()) {
                if (each[0] == 2) {
                    drop += 40;
                    if (drop > feedA) {
                        return begin;
                    }
                } else if (each[0] == 0) {
                    int length = each[3] - each[2] + 1;
                    int part = length;
                    while (drop + part / 100 > feedA) {
                        part--;
                    }
                    if (part < length) {
                        return begin + part;
                    }
                    drop += length / 100;
                    begin += length;
                }
            }
            return place;
        }

        boolean isFed() {
            if (cells < 100) {
                return false;
            }
            int first = Integer.MAX_VALUE;
            int last = -1;
            for (int[] each : faults) {
                if (each[0] == 0) {
                    first = Math.min(first, each[1]);
                    last = Math.max(last, each[1]);
                }
            }
            if (last < 0) {
                return drop(-1, metres()) <= feedA + feedB;
            }
            return drop(-1, first) <= feedA && drop(last, metres()) <= feedB;
        }

        boolean works() {
            for (int[] each : faults) {
                if (each[0] == 1) {
                    return false;
                }
            }
            return isFed() && margin() >= 0;
        }

        long ofFault(int fault, int what) {
            index(fault, faults.size());
            argument(in(what, 0, 2));
            return faults.get(fault)[what == 0 ? 0 : what + 1];
        }
    }
}
