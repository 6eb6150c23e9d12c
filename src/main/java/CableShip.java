import java.util.Arrays;

/** A line under the sea, from the laying of its cable to the waves that it carries for others. */
public final class CableShip {
    public static final int NONE = -1;
    public static final int SPAN = 0, JOINT = 1, REPEATER = 2;
    public static final int SHUNT = 0, BREAK = 1;

    private static final int CELLS = 100;
    private static final int MOST_CELLS_A_DAY = 12;
    private static final int LAST_DAY = 20000;
    private static final int MOST_DRAW = 65536;
    private static final int MOST_FEED = 9999;
    private static final int MOST_FAULTS = 4;
    private static final int MOST_LINKS = 6;
    private static final int MOST_DEMANDS = 10;
    private static final int LOST_METRES = 200;
    private static final int STORM = 9;

    private final Sea sea;
    private final Calendar calendar;
    private final Hold hold;
    private final Row row;
    private final FaultBook book;
    private final Network network;
    private int laidToday;
    private boolean isBuoyed;
    private int lost;
    private int waste;
    private int feedA;
    private int feedB;

    public CableShip() {
        sea = new Sea();
        calendar = new Calendar();
        hold = new Hold();
        row = new Row();
        book = new FaultBook();
        network = new Network();
    }

    // ---- the sea, days

    public int sound(int cell, int depth, int error) throws IllegalArgumentException, IllegalStateException {
        needArgument(isCell(cell) && isIn(depth, 0, 6000) && isIn(error, 0, 500));
        needState(cell >= row.cells);
        sea.takeSounding(cell, depth, error);
        return sea.depthOf(cell);
    }

    public boolean wreck(int cell, boolean is) throws IllegalArgumentException {
        needArgument(isCell(cell));
        boolean was = sea.hasWreck(cell);
        sea.setWreck(cell, is);
        return was;
    }

    public int crossing(int cell, int what) throws IllegalArgumentException {
        needArgument(isCell(cell) && isIn(what, 0, 2));
        int was = sea.crossingOf(cell);
        sea.setCrossing(cell, what);
        return was;
    }

    public int weather(int seed) throws IllegalArgumentException, IllegalStateException {
        needArgument(isIn(seed, 0, MOST_DRAW));
        needState(calendar.today == 0);
        calendar.draw = seed;
        return calendar.wavesToday();
    }

    public int pass(int days) throws IllegalArgumentException, IllegalStateException {
        needArgument(isIn(days, 1, 400));
        needState(calendar.today + days <= LAST_DAY);
        for (int i = 0; i < days; i++) {
            passOneDay();
        }
        return calendar.today;
    }

    private void passOneDay() {
        calendar.nextDay();
        laidToday = 0;
        if (!isBuoyed && !liesAtB() && calendar.wavesToday() == STORM) {
            buoy();
        }
    }

    private void buoy() {
        isBuoyed = true;
        lost = Math.min(LOST_METRES, row.metres);
        waste += lost;
        row.loseEnd(lost);
        book.dropFrom(row.metres);
        book.beginAnew(row.metres);
    }

    // ---- cable, laying

    public int make(int type, int metres, int tank) throws IllegalArgumentException, IllegalStateException {
        needArgument(isType(type) && isIn(metres, 1, 90000) && isTank(tank));
        needState(hold.pieces < Hold.MOST_PIECES);
        return hold.stow(type, metres, tank);
    }

    public int lay(int cells, int slack, int tank) throws IllegalArgumentException, IllegalStateException {
        needArgument(isIn(cells, 1, 12) && isIn(slack, 0, 50) && isTank(tank));
        needState(!liesAtB());
        int laid = 0;
        while (laid < cells && layOneCell(slack, tank)) {
            laid++;
        }
        return laid;
    }

    private boolean layOneCell(int slack, int tank) {
        int next = row.cells;
        if (!mayGoOn() || !sea.isOpen(next)) {
            return false;
        }
        int ground = sea.groundOf(next);
        int metres = ground + ground * slack / 1000;
        if (!hold.gather(tank, metres) || !hold.holdsAt(sea.depthOf(next)) || !hold.fits(typeAt(row.metres - 1), NONE)) {
            return false;
        }
        putBehind();
        hold.sendOut(tank, metres);
        row.endCell(metres);
        laidToday++;
        return true;
    }

    private boolean mayGoOn() {
        return calendar.isForWork() && laidToday < MOST_CELLS_A_DAY && !isBuoyed && !liesAtB();
    }

    private void putBehind() {
        Table parts = hold.gathered;
        for (int i = 0; i < parts.rows; i++) {
            row.append(parts.get(i, Table.PIECE), parts.get(i, Table.FIRST), parts.get(i, Table.METRES));
        }
    }

    public int repeater() throws IllegalStateException {
        needState(row.metres > 0 && !isBuoyed && row.lastKind() != REPEATER);
        row.addBare(REPEATER);
        return row.count(REPEATER);
    }

    public int takeUp(int tank) throws IllegalArgumentException, IllegalStateException {
        needArgument(isTank(tank));
        needState(isBuoyed && calendar.isForWork() && hold.gather(tank, lost));
        needState(hold.fits(typeAt(row.metres - 1), NONE));
        int put = lost;
        if (put > 0) {
            row.addBare(JOINT);
            putBehind();
            hold.sendOut(tank, put);
            row.regainEnd(put);
        }
        isBuoyed = false;
        lost = 0;
        book.beginAnew(row.metres);
        return put;
    }

    public void feed(int a, int b) throws IllegalArgumentException {
        needArgument(isIn(a, 0, MOST_FEED) && isIn(b, 0, MOST_FEED));
        feedA = a;
        feedB = b;
    }

    // ---- faults, mending

    public int fault(int kind, int place) throws IllegalArgumentException, IllegalStateException {
        needArgument(isIn(kind, SHUNT, BREAK) && isIn(place, 0, row.metres - 1));
        needState(book.size() < MOST_FAULTS);
        book.enter(kind, place, row.metres);
        return book.size();
    }

    public boolean net(int cell) throws IllegalArgumentException, IllegalStateException {
        needArgument(isCell(cell));
        needState(book.size() < MOST_FAULTS);
        if (cell >= row.cells || sea.depthOf(cell) >= 300) {
            return false;
        }
        int middle = row.beginOf(cell) + row.metresIn(cell) / 2;
        if (typeAt(middle) < 2) {
            return false;
        }
        book.enter(BREAK, middle, row.metres);
        return true;
    }

    public int measure(boolean fromB, boolean voltage, int draw) throws IllegalArgumentException, IllegalStateException {
        needArgument(isIn(draw, 0, MOST_DRAW));
        needState(liesAtB());
        int found = book.nearest(fromB, voltage);
        if (found == NONE) {
            return NONE;
        }
        int place = book.placeOf(found);
        if (!voltage && row.hasRepeater(place, fromB)) {
            return NONE;
        }
        int away = fromB ? row.metres - place : place;
        int error = (away / 200 + 10) * (voltage ? 2 : 1);
        int choices = Math.max(1, 2 * error + 1);
        int told = Math.max(0, away - error + draw % choices);
        int width = (told / 190 + 12) * (voltage ? 2 : 1);
        book.narrow(found, fromB ? row.metres - told : told, width);
        return told;
    }

    public int mend(int cell, int tank) throws IllegalArgumentException, IllegalStateException {
        needArgument(isCell(cell) && isTank(tank));
        needState(calendar.isForWork() && (liesAtB() || isBuoyed));
        needState(cell < row.cells && !(isBuoyed && cell == row.cells - 1));
        int begin = row.beginOf(cell);
        int end = begin + row.metresIn(cell);
        int depth = sea.depthOf(cell);
        int metres = end - begin + 2 * depth;
        needState(hold.gather(tank, metres) && hold.fits(typeAt(begin - 1), typeAt(end)));
        row.exchange(cell, hold.gathered, metres);
        hold.sendOut(tank, metres);
        waste += end - begin;
        calendar.busyUntil = calendar.today + 3 + depth / 1000;
        int gone = book.cutOut(begin, end, metres - (end - begin));
        book.beginAnew(row.metres);
        return gone;
    }

    // ---- other lines

    public int link(int a, int b, int capacity) throws IllegalArgumentException, IllegalStateException {
        needArgument(isPair(a, b) && isIn(capacity, 1, 20));
        needState(network.links.rows < MOST_LINKS);
        network.links.add(a, b, capacity, 0);
        return network.links.rows - 1;
    }

    public boolean dead(int link, boolean is) throws IndexOutOfBoundsException, IllegalArgumentException {
        needIndex(link, network.links.rows);
        needArgument(link != 0);
        boolean was = network.links.get(link, Network.DEAD) == 1;
        network.links.set(link, Network.DEAD, is ? 1 : 0);
        return was;
    }

    public int demand(int a, int b, int waves) throws IllegalArgumentException, IllegalStateException {
        needArgument(isPair(a, b) && isIn(waves, 1, 8));
        needState(network.demands.rows < MOST_DEMANDS);
        network.demands.add(a, b, waves, 0);
        int number = network.demands.rows - 1;
        network.carry(number, deadLinks());
        return number;
    }

    public int restore() {
        int dead = deadLinks();
        network.takeOff(dead);
        return network.carryDark(dead);
    }

    public int way(int demand) throws IndexOutOfBoundsException {
        needIndex(demand, network.demands.rows);
        return network.wayOf(demand);
    }

    public boolean isLit(int demand) throws IndexOutOfBoundsException {
        needIndex(demand, network.demands.rows);
        int links = network.wayOf(demand);
        return links != 0 && (links & deadLinks()) == 0;
    }

    private int deadLinks() {
        return network.toldDead() | (lineWorks() ? 0 : 1);
    }

    // ---- questions

    public int day() {
        return calendar.today;
    }

    public int waves() {
        return calendar.wavesToday();
    }

    public boolean canWork() {
        return calendar.isForWork();
    }

    public int cell(int cell, int what) throws IllegalArgumentException {
        needArgument(isCell(cell) && isIn(what, 0, 3));
        switch (what) {
            case 0:
                return sea.depthOf(cell);
            case 1:
                return sea.groundOf(cell);
            case 2:
                return cell < row.cells ? row.beginOf(cell) : NONE;
            default:
                return cell < row.cells ? row.metresIn(cell) : NONE;
        }
    }

    public int tension(int type, int cell) throws IllegalArgumentException {
        needArgument(isType(type) && isCell(cell));
        return Hold.pull(type, sea.depthOf(cell));
    }

    public int tank(int tank, int what) throws IllegalArgumentException {
        needArgument(isTank(tank) && isIn(what, 0, 4));
        switch (what) {
            case 0:
                return hold.metresIn(tank);
            case 1:
                return hold.piecesIn(tank);
            case 2:
                return hold.typeOf(hold.top(tank, Table.PIECE));
            case 3:
                return hold.top(tank, Table.PIECE);
            default:
                return hold.top(tank, Table.FIRST);
        }
    }

    public int line(int what) throws IllegalArgumentException {
        needArgument(isIn(what, 0, 7));
        switch (what) {
            case 0:
                return row.metres;
            case 1:
                return row.cells;
            case 2:
                return row.things.rows;
            case 3:
                return row.count(JOINT);
            case 4:
                return row.count(REPEATER);
            case 5:
                return waste;
            case 6:
                return isBuoyed ? 1 : 0;
            default:
                return lost;
        }
    }

    public int thing(int thing, int what) throws IndexOutOfBoundsException, IllegalArgumentException {
        needIndex(thing, row.things.rows);
        needArgument(isIn(what, 0, 3));
        int kind = row.things.get(thing, Row.KIND);
        if (what == 0) {
            return kind;
        }
        if (kind != SPAN) {
            return NONE;
        }
        int first = row.things.get(thing, Table.FIRST);
        switch (what) {
            case 1:
                return row.things.get(thing, Table.PIECE);
            case 2:
                return first;
            default:
                return first + row.things.get(thing, Table.METRES) - 1;
        }
    }

    public int metre(int place) throws IndexOutOfBoundsException {
        needIndex(place, row.metres);
        return row.metreAt(place);
    }

    public int metreAnew(int place) throws IndexOutOfBoundsException {
        needIndex(place, row.metres);
        return row.metreByDeeds(place);
    }

    public int margin() {
        return marginToday();
    }

    public int earth() {
        return row.reachOf(feedA);
    }

    public boolean isFed() {
        return lineIsFed();
    }

    public boolean works() {
        return lineWorks();
    }

    public int ofFault(int fault, int what) throws IndexOutOfBoundsException, IllegalArgumentException {
        needIndex(fault, book.size());
        needArgument(isIn(what, 0, 2));
        return book.tell(fault, what);
    }

    public int faults() {
        return book.size();
    }

    public boolean isKept() {
        int stowed = 0;
        for (int i = 0; i < Hold.TANKS; i++) {
            stowed += hold.metresIn(i);
        }
        return stowed + row.metres + waste == hold.made;
    }

    private boolean liesAtB() {
        return row.cells == CELLS;
    }

    private int typeAt(int place) {
        return hold.typeOf(row.pieceAt(place));
    }

    private int marginToday() {
        return row.leastSignal(calendar.today / 365) - 1500;
    }

    private boolean lineIsFed() {
        if (!liesAtB()) {
            return false;
        }
        int first = book.firstShunt();
        if (first == NONE) {
            return row.dropsAhead(row.metres) <= feedA + feedB;
        }
        return row.dropsAhead(first) <= feedA && row.dropsBehind(book.lastShunt()) <= feedB;
    }

    private boolean lineWorks() {
        return liesAtB() && !book.hasBreak() && lineIsFed() && marginToday() >= 0;
    }

    private static boolean isIn(int value, int least, int most) {
        return value >= least && value <= most;
    }

    private static boolean isCell(int cell) {
        return isIn(cell, 0, CELLS - 1);
    }

    private static boolean isTank(int tank) {
        return isIn(tank, 0, Hold.TANKS - 1);
    }

    private static boolean isType(int type) {
        return isIn(type, 0, 3);
    }

    private static boolean isPair(int a, int b) {
        return isIn(a, 0, Network.STATIONS - 1) && isIn(b, 0, Network.STATIONS - 1) && a != b;
    }

    private static void needArgument(boolean isRight) {
        if (!isRight) {
            throw new IllegalArgumentException("an argument is out of its range");
        }
    }

    private static void needState(boolean isRight) {
        if (!isRight) {
            throw new IllegalStateException("this cannot be done now");
        }
    }

    private static void needIndex(int index, int size) {
        if (index < 0 || index >= size) {
            throw new IndexOutOfBoundsException("there is none of this number");
        }
    }

    /** Rows of four numbers; one form for all lists, so that each index is looked at in one place. */
    private static final class Table {
        static final int PIECE = 1, FIRST = 2, METRES = 3;
        private static final int WIDTH = 4;
        /** Far above what all cable that can be made allows. */
        private static final int MOST_VALUES = 1000000;

        private int[] values;
        int rows;

        Table() {
            values = new int[16 * WIDTH];
        }

        int get(int at, int column) {
            int i = at * WIDTH + column;
            if (at < 0 || at >= rows || column < 0 || column >= WIDTH || i >= values.length) {
                return NONE;
            }
            return values[i];
        }

        void set(int at, int column, int value) {
            int i = at * WIDTH + column;
            if (at >= 0 && at < rows && column >= 0 && column < WIDTH && i < values.length) {
                values[i] = value;
            }
        }

        void add(int a, int b, int c, int d) {
            insert(rows, a, b, c, d);
        }

        void insert(int at, int a, int b, int c, int d) {
            int used = rows * WIDTH;
            if (at < 0 || at > rows || used + WIDTH > MOST_VALUES) {
                return;
            }
            if (used + WIDTH > values.length) {
                values = Arrays.copyOf(values, 2 * (used + WIDTH));
            }
            int from = at * WIDTH;
            System.arraycopy(values, from, values, from + WIDTH, used - from);
            values[from] = a;
            values[from + 1] = b;
            values[from + 2] = c;
            values[from + 3] = d;
            rows++;
        }

        void remove(int at) {
            int used = rows * WIDTH;
            if (at < 0 || at >= rows || used > values.length) {
                return;
            }
            int behind = (at + 1) * WIDTH;
            System.arraycopy(values, behind, values, behind - WIDTH, used - behind);
            rows--;
        }

        void clear() {
            rows = 0;
        }
    }

    /** What the ground is like, cell by cell. */
    private static final class Sea {
        private static final int UNSOUNDED_DEPTH = 100;
        /** Above every error that a sounding may have, so that the first one always counts. */
        private static final int UNSOUNDED_ERROR = 501;

        private final int[] depths = new int[CELLS];
        private final int[] errors = new int[CELLS];
        private final boolean[] wrecks = new boolean[CELLS];
        private final int[] crossings = new int[CELLS];

        Sea() {
            Arrays.fill(depths, UNSOUNDED_DEPTH);
            Arrays.fill(errors, UNSOUNDED_ERROR);
        }

        void takeSounding(int at, int depth, int error) {
            if (isCell(at) && error <= errors[at]) {
                depths[at] = depth;
                errors[at] = error;
            }
        }

        int depthOf(int at) {
            return isCell(at) ? depths[at] : 0;
        }

        int groundOf(int at) {
            int rise = depthOf(at) - depthOf(at - 1);
            return 1000 + rise * rise / 2000;
        }

        boolean hasWreck(int at) {
            return isCell(at) && wrecks[at];
        }

        void setWreck(int at, boolean is) {
            if (isCell(at)) {
                wrecks[at] = is;
            }
        }

        int crossingOf(int at) {
            return isCell(at) ? crossings[at] : 0;
        }

        void setCrossing(int at, int what) {
            if (isCell(at)) {
                crossings[at] = what;
            }
        }

        boolean isOpen(int at) {
            return !hasWreck(at) && crossingOf(at) != 1;
        }
    }

    /** The day, its waves, and until when the ship is busy. */
    private static final class Calendar {
        int today;
        int draw;
        int busyUntil;

        void nextDay() {
            today++;
            draw = (75 * draw + 74) % 65537;
        }

        int wavesToday() {
            return draw % 10;
        }

        boolean isForWork() {
            return wavesToday() <= 6 && busyUntil <= today;
        }
    }

    /** The pieces that were made, and the tanks from which they go out. */
    private static final class Hold {
        static final int TANKS = 3;
        static final int MOST_PIECES = 30;
        private static final int TANK = 0;

        private final int[] types = new int[MOST_PIECES];
        /** In the order of making: the top of a tank is the last row that bears its number. */
        private final Table stowed = new Table();
        /** What would go out next, in its order. */
        final Table gathered = new Table();
        int pieces;
        int made;

        int stow(int type, int metres, int tank) {
            int number = pieces;
            if (number >= 0 && number < types.length) {
                types[number] = type;
                pieces++;
                made += metres;
                stowed.add(tank, number, 0, metres);
            }
            return number;
        }

        int typeOf(int piece) {
            return piece >= 0 && piece < pieces && piece < types.length ? types[piece] : NONE;
        }

        int metresIn(int tank) {
            int sum = 0;
            for (int i = 0; i < stowed.rows; i++) {
                if (stowed.get(i, TANK) == tank) {
                    sum += stowed.get(i, Table.METRES);
                }
            }
            return sum;
        }

        int piecesIn(int tank) {
            int sum = 0;
            for (int i = 0; i < stowed.rows; i++) {
                if (stowed.get(i, TANK) == tank) {
                    sum++;
                }
            }
            return sum;
        }

        int top(int tank, int column) {
            for (int i = stowed.rows - 1; i >= 0; i--) {
                if (stowed.get(i, TANK) == tank) {
                    return stowed.get(i, column);
                }
            }
            return NONE;
        }

        /** Looks at what would go out, and takes nothing, as what is refused must change nothing. */
        boolean gather(int tank, int metres) {
            gathered.clear();
            int missing = metres;
            for (int i = stowed.rows - 1; i >= 0 && missing > 0; i--) {
                if (stowed.get(i, TANK) == tank) {
                    int part = Math.min(missing, stowed.get(i, Table.METRES));
                    gathered.add(tank, stowed.get(i, Table.PIECE), stowed.get(i, Table.FIRST), part);
                    missing -= part;
                }
            }
            return missing == 0;
        }

        void sendOut(int tank, int metres) {
            int missing = metres;
            for (int i = stowed.rows - 1; i >= 0 && missing > 0; i--) {
                if (stowed.get(i, TANK) == tank) {
                    int has = stowed.get(i, Table.METRES);
                    int part = Math.min(missing, has);
                    missing -= part;
                    if (part == has) {
                        stowed.remove(i);
                    } else {
                        stowed.set(i, Table.FIRST, stowed.get(i, Table.FIRST) + part);
                        stowed.set(i, Table.METRES, has - part);
                    }
                }
            }
        }

        /** Whether the types of what is gathered can lie between these two; NONE for nothing there. */
        boolean fits(int ahead, int behind) {
            int last = ahead;
            for (int i = 0; i < gathered.rows; i++) {
                int type = typeOf(gathered.get(i, Table.PIECE));
                if (!isNear(last, type)) {
                    return false;
                }
                last = type;
            }
            return isNear(last, behind);
        }

        boolean holdsAt(int depth) {
            for (int i = 0; i < gathered.rows; i++) {
                int type = typeOf(gathered.get(i, Table.PIECE));
                if (pull(type, depth) > mostPull(type)) {
                    return false;
                }
            }
            return true;
        }

        static int pull(int type, int depth) {
            return (12 - 3 * type) * depth / 100;
        }

        private static int mostPull(int type) {
            switch (type) {
                case 0:
                    return 60;
                case 1:
                    return 90;
                case 2:
                    return 150;
                default:
                    return 200;
            }
        }

        private static boolean isNear(int type, int other) {
            return type == NONE || other == NONE || Math.abs(type - other) <= 1;
        }
    }

    /** The line as it lies: spans, joints and repeaters, and which metres lie in which cell. */
    private static final class Row {
        static final int KIND = 0;
        private static final int MOST_SIGNAL = 3000;
        private static final int REPEATER_DROP = 40;

        final Table things = new Table();
        private final Deeds deeds = new Deeds();
        private final int[] cellMetres = new int[CELLS];
        int cells;
        int metres;

        int beginOf(int cell) {
            int place = 0;
            for (int i = 0; i < cell && i < cells; i++) {
                place += metresIn(i);
            }
            return place;
        }

        int metresIn(int cell) {
            return isCell(cell) ? cellMetres[cell] : 0;
        }

        void endCell(int taken) {
            if (isCell(cells)) {
                cellMetres[cells] = taken;
                cells++;
            }
        }

        int lastKind() {
            return things.get(things.rows - 1, KIND);
        }

        int count(int kind) {
            int sum = 0;
            for (int i = 0; i < things.rows; i++) {
                if (things.get(i, KIND) == kind) {
                    sum++;
                }
            }
            return sum;
        }

        void addBare(int kind) {
            things.add(kind, NONE, NONE, 0);
        }

        void append(int piece, int first, int length) {
            deeds.putIn(metres, piece, first, length);
            metres += length;
            int last = things.rows - 1;
            boolean isBehindSpan = lastKind() == SPAN;
            if (isBehindSpan && goesOn(last, piece, first)) {
                things.set(last, Table.METRES, things.get(last, Table.METRES) + length);
                return;
            }
            if (isBehindSpan) {
                addBare(JOINT);
            }
            things.add(SPAN, piece, first, length);
        }

        private boolean goesOn(int span, int piece, int first) {
            return things.get(span, Table.PIECE) == piece
                && things.get(span, Table.FIRST) + things.get(span, Table.METRES) == first;
        }

        /** A cell takes more metres than a storm can, so that all that is lost is of the last cell. */
        void loseEnd(int length) {
            if (length <= 0) {
                return;
            }
            metres -= length;
            deeds.cutOut(metres, length);
            regainEnd(-length);
            int missing = length;
            for (int i = things.rows - 1; i >= 0; i--) {
                int has = things.get(i, Table.METRES);
                if (things.get(i, KIND) == SPAN && has > missing) {
                    things.set(i, Table.METRES, has - missing);
                    return;
                }
                missing -= has;
                things.remove(i);
            }
        }

        void regainEnd(int length) {
            if (isCell(cells - 1)) {
                cellMetres[cells - 1] += length;
            }
        }

        /** Puts these parts where the cell's metres were, with a joint at each end. */
        void exchange(int cell, Table parts, int length) {
            if (!isCell(cell)) {
                return;
            }
            int begin = beginOf(cell);
            int old = cellMetres[cell];
            int at = cutThings(begin, begin + old);
            deeds.cutOut(begin, old);
            int place = begin;
            things.insert(at, JOINT, NONE, NONE, 0);
            for (int i = 0; i < parts.rows; i++) {
                int piece = parts.get(i, Table.PIECE);
                int first = parts.get(i, Table.FIRST);
                int part = parts.get(i, Table.METRES);
                things.insert(at + 1, SPAN, piece, first, part);
                things.insert(at + 2, JOINT, NONE, NONE, 0);
                deeds.putIn(place, piece, first, part);
                at += 2;
                place += part;
            }
            metres += length - old;
            cellMetres[cell] = length;
        }

        /** Takes out the things from one place to another, and tells where in the row new ones go. */
        private int cutThings(int begin, int end) {
            divideAt(begin);
            divideAt(end);
            int behind = 0;
            int place = metres;
            for (int i = things.rows - 1; i >= 0; i--) {
                int kind = things.get(i, KIND);
                place -= things.get(i, Table.METRES);
                if (kind == JOINT ? place > end : place >= end) {
                    behind++;
                } else if (kind == REPEATER ? place > begin : place >= begin) {
                    things.remove(i);
                }
            }
            return things.rows - behind;
        }

        private void divideAt(int place) {
            int start = 0;
            for (int i = 0; i < things.rows; i++) {
                int length = things.get(i, Table.METRES);
                int ahead = place - start;
                if (ahead > 0 && ahead < length) {
                    int first = things.get(i, Table.FIRST);
                    things.set(i, Table.METRES, ahead);
                    things.insert(i + 1, SPAN, things.get(i, Table.PIECE), first + ahead, length - ahead);
                    return;
                }
                start += length;
            }
        }

        int metreAt(int place) {
            int start = 0;
            for (int i = 0; i < things.rows; i++) {
                int length = things.get(i, Table.METRES);
                if (place >= start && place < start + length) {
                    return 100000 * things.get(i, Table.PIECE) + things.get(i, Table.FIRST) + place - start;
                }
                start += length;
            }
            return NONE;
        }

        int metreByDeeds(int place) {
            return deeds.metreAt(place);
        }

        int pieceAt(int place) {
            int found = metreAt(place);
            return found == NONE ? NONE : found / 100000;
        }

        int leastSignal(int years) {
            int least = MOST_SIGNAL;
            int signal = MOST_SIGNAL;
            for (int i = 0; i < things.rows; i++) {
                int kind = things.get(i, KIND);
                if (kind == SPAN) {
                    signal -= things.get(i, Table.METRES) * (100 + years) / 5000;
                } else if (kind == JOINT) {
                    signal -= 5;
                } else {
                    least = Math.min(least, signal);
                    signal = Math.min(MOST_SIGNAL, signal + 1200);
                }
            }
            return Math.min(least, signal);
        }

        /** A repeater at the place stands ahead of it. */
        int dropsAhead(int place) {
            int drops = 0;
            int start = 0;
            for (int i = 0; i < things.rows && start <= place; i++) {
                int length = things.get(i, Table.METRES);
                drops += dropOf(things.get(i, KIND), Math.min(length, place - start));
                start += length;
            }
            return drops;
        }

        int dropsBehind(int place) {
            int drops = 0;
            int end = metres;
            for (int i = things.rows - 1; i >= 0 && end > place; i--) {
                int length = things.get(i, Table.METRES);
                drops += dropOf(things.get(i, KIND), Math.min(length, end - place));
                end -= length;
            }
            return drops;
        }

        private static int dropOf(int kind, int length) {
            if (kind == REPEATER) {
                return REPEATER_DROP;
            }
            return length / 100;
        }

        /** The place to which this much from A comes; of a span also a part that drops no more. */
        int reachOf(int fed) {
            int place = 0;
            int left = fed;
            for (int i = 0; i < things.rows; i++) {
                int kind = things.get(i, KIND);
                int length = things.get(i, Table.METRES);
                int drop = dropOf(kind, length);
                if (drop > left) {
                    return kind == SPAN ? place + left * 100 + 99 : place;
                }
                left -= drop;
                place += length;
            }
            return place;
        }

        /** Whether a repeater stands between the metre of a place and a shore. */
        boolean hasRepeater(int place, boolean towardsB) {
            int start = 0;
            for (int i = 0; i < things.rows; i++) {
                if (things.get(i, KIND) == REPEATER && (start > place) == towardsB) {
                    return true;
                }
                start += things.get(i, Table.METRES);
            }
            return false;
        }
    }

    /** All that was done to the line's metres, in its order; what is cut out bears no piece. */
    private static final class Deeds {
        private static final int PLACE = 0;

        private final Table done = new Table();

        void putIn(int place, int piece, int first, int length) {
            done.add(place, piece, first, length);
        }

        void cutOut(int place, int length) {
            done.add(place, NONE, NONE, length);
        }

        int metreAt(int place) {
            int at = place;
            for (int i = done.rows - 1; i >= 0; i--) {
                int piece = done.get(i, Table.PIECE);
                int length = done.get(i, Table.METRES);
                int inside = at - done.get(i, PLACE);
                if (inside >= 0 && piece == NONE) {
                    at += length;
                } else if (inside >= length) {
                    at -= length;
                } else if (inside >= 0) {
                    return 100000 * piece + done.get(i, Table.FIRST) + inside;
                }
            }
            return NONE;
        }
    }

    /** The faults, in the order in which they came, and where each may be by the measurings. */
    private static final class FaultBook {
        private static final int KIND = 0, PLACE = 1, FROM = 2, TO = 3;

        private final Table rows = new Table();

        int size() {
            return rows.rows;
        }

        void enter(int kind, int place, int metres) {
            rows.add(kind, place, 0, metres);
        }

        int placeOf(int number) {
            return rows.get(number, PLACE);
        }

        int tell(int number, int what) {
            switch (what) {
                case 0:
                    return rows.get(number, KIND);
                case 1:
                    return rows.get(number, FROM);
                default:
                    return rows.get(number, TO);
            }
        }

        void beginAnew(int metres) {
            for (int i = 0; i < rows.rows; i++) {
                rows.set(i, FROM, 0);
                rows.set(i, TO, metres);
            }
        }

        void dropFrom(int place) {
            for (int i = rows.rows - 1; i >= 0; i--) {
                if (rows.get(i, PLACE) >= place) {
                    rows.remove(i);
                }
            }
        }

        /** Returns how many are gone; those behind are shifted. */
        int cutOut(int begin, int end, int shift) {
            int gone = 0;
            for (int i = rows.rows - 1; i >= 0; i--) {
                int place = rows.get(i, PLACE);
                if (place >= end) {
                    rows.set(i, PLACE, place + shift);
                } else if (place >= begin) {
                    rows.remove(i);
                    gone++;
                }
            }
            return gone;
        }

        boolean hasBreak() {
            for (int i = 0; i < rows.rows; i++) {
                if (rows.get(i, KIND) == BREAK) {
                    return true;
                }
            }
            return false;
        }

        int firstShunt() {
            int first = NONE;
            for (int i = 0; i < rows.rows; i++) {
                int place = rows.get(i, PLACE);
                if (rows.get(i, KIND) == SHUNT && (first == NONE || place < first)) {
                    first = place;
                }
            }
            return first;
        }

        int lastShunt() {
            int last = NONE;
            for (int i = 0; i < rows.rows; i++) {
                if (rows.get(i, KIND) == SHUNT) {
                    last = Math.max(last, rows.get(i, PLACE));
                }
            }
            return last;
        }

        /** The nearest fault from a shore, breaks alone if not of either kind; of equals the first that came. */
        int nearest(boolean fromB, boolean ofEither) {
            int found = NONE;
            for (int i = 0; i < rows.rows; i++) {
                if (ofEither || rows.get(i, KIND) == BREAK) {
                    int place = rows.get(i, PLACE);
                    int best = placeOf(found);
                    if (found == NONE || (fromB ? place > best : place < best)) {
                        found = i;
                    }
                }
            }
            return found;
        }

        void narrow(int number, int place, int width) {
            rows.set(number, FROM, Math.max(rows.get(number, FROM), place - width));
            rows.set(number, TO, Math.min(rows.get(number, TO), place + width));
        }
    }

    /** The links between the stations, and the demands that they carry. */
    private static final class Network {
        static final int STATIONS = 4;
        static final int DEAD = 3;
        private static final int A = 0, B = 1, CAPACITY = 2;
        private static final int WAVES = 2, WAY = 3;

        final Table links = new Table();
        final Table demands = new Table();
        /** By stations: how many links it is to the end that is looked for. */
        private final int[] steps = new int[STATIONS];

        Network() {
            links.add(0, 1, 8, 0);
        }

        int wayOf(int number) {
            return demands.get(number, WAY);
        }

        /** The links that were told to be dead, a bit each; the line itself is not asked here. */
        int toldDead() {
            int dead = 0;
            for (int i = 0; i < links.rows; i++) {
                if (links.get(i, DEAD) == 1) {
                    dead |= 1 << i;
                }
            }
            return dead;
        }

        void takeOff(int dead) {
            for (int i = 0; i < demands.rows; i++) {
                if ((wayOf(i) & dead) != 0) {
                    demands.set(i, WAY, 0);
                }
            }
        }

        /** Carries all that are dark, if they can be, and returns how many stay dark. */
        int carryDark(int dead) {
            int dark = 0;
            for (int i = 0; i < demands.rows; i++) {
                if (wayOf(i) == 0) {
                    carry(i, dead);
                }
                if (wayOf(i) == 0) {
                    dark++;
                }
            }
            return dark;
        }

        void carry(int number, int dead) {
            int usable = usableLinks(demands.get(number, WAVES), dead);
            countSteps(demands.get(number, B), usable);
            demands.set(number, WAY, bestWay(demands.get(number, A), usable));
        }

        private int usableLinks(int waves, int dead) {
            int usable = 0;
            for (int i = 0; i < links.rows; i++) {
                if ((dead >> i & 1) == 0 && freeOn(i) >= waves) {
                    usable |= 1 << i;
                }
            }
            return usable;
        }

        private int freeOn(int number) {
            int free = links.get(number, CAPACITY);
            for (int i = 0; i < demands.rows; i++) {
                if ((wayOf(i) >> number & 1) == 1) {
                    free -= demands.get(i, WAVES);
                }
            }
            return free;
        }

        private void countSteps(int end, int usable) {
            Arrays.fill(steps, STATIONS);
            if (end >= 0 && end < steps.length) {
                steps[end] = 0;
            }
            for (int round = 1; round < STATIONS; round++) {
                for (int i = 0; i < links.rows; i++) {
                    if ((usable >> i & 1) == 1) {
                        shorten(links.get(i, A), links.get(i, B));
                        shorten(links.get(i, B), links.get(i, A));
                    }
                }
            }
        }

        private void shorten(int from, int to) {
            if (from >= 0 && from < steps.length && stepsFrom(to) + 1 < steps[from]) {
                steps[from] = stepsFrom(to) + 1;
            }
        }

        private int stepsFrom(int station) {
            return station >= 0 && station < steps.length ? steps[station] : STATIONS;
        }

        /** From each station the lowest link that is on a shortest way; 0 if there is no way. */
        private int bestWay(int begin, int usable) {
            int found = 0;
            int station = begin;
            for (int left = stepsFrom(begin); left > 0 && left < STATIONS; left--) {
                int next = NONE;
                for (int i = 0; i < links.rows && next == NONE; i++) {
                    int other = otherEnd(i, station);
                    if ((usable >> i & 1) == 1 && other != NONE && stepsFrom(other) == left - 1) {
                        next = other;
                        found |= 1 << i;
                    }
                }
                station = next;
            }
            return found;
        }

        private int otherEnd(int number, int station) {
            if (links.get(number, A) == station) {
                return links.get(number, B);
            }
            return links.get(number, B) == station ? links.get(number, A) : NONE;
        }
    }
}
