/** What the tests share: answers that are compared and counted, and ships in some states. */
abstract class ShipTestBase {
    static final Class<?> ARGUMENT = IllegalArgumentException.class;
    static final Class<?> STATE = IllegalStateException.class;
    static final Class<?> INDEX = IndexOutOfBoundsException.class;
    static final int NONE = CableShip.NONE;
    static final int SHUNT = CableShip.SHUNT, BREAK = CableShip.BREAK;
    /** A joint and a repeater, where a row is told by its metres. */
    static final int J = -1, R = -2;

    /** The promise that is being tested, for what is printed. */
    static int promise;
    private static int wrong;

    interface Call {
        void run();
    }

    static void end() {
        if (wrong > 0) {
            System.out.println(wrong + " answers are wrong");
            System.exit(1);
        }
    }

    private static void tell(String fault) {
        wrong++;
        System.out.println("promise " + promise + ": " + fault);
    }

    static void is(String call, long got, long due) {
        if (got != due) {
            tell(call + " answered " + got + ", due is " + due);
        }
    }

    static void is(String call, boolean got, boolean due) {
        if (got != due) {
            tell(call + " answered " + got + ", due is " + due);
        }
    }

    /** The very class counts: an exception of the machine below the one that is due is a fault. */
    static void fails(String call, Class<?> due, Call tried) {
        Class<?> got = thrownBy(tried);
        if (got != due) {
            tell(call + " threw " + got + ", due is " + due);
        }
    }

    static Class<?> thrownBy(Call tried) {
        try {
            tried.run();
        } catch (RuntimeException thrown) {
            return thrown.getClass();
        }
        return null;
    }

    static void rowIs(String after, CableShip ship, int... kindsAndMetres) {
        StringBuilder got = new StringBuilder();
        for (int i = 0; i < ship.line(2); i++) {
            int kind = ship.thing(i, 0);
            got.append(kind == CableShip.SPAN ? " " + (ship.thing(i, 3) - ship.thing(i, 2) + 1)
                : kind == CableShip.JOINT ? " J" : " R");
        }
        StringBuilder due = new StringBuilder();
        for (int each : kindsAndMetres) {
            due.append(each == J ? " J" : each == R ? " R" : " " + each);
        }
        if (!got.toString().equals(due.toString())) {
            tell("the row " + after + " is" + got + ", due is" + due);
        }
    }

    static int drawOf(int seed, int day) {
        int draw = seed;
        for (int i = 0; i < day; i++) {
            draw = (75 * draw + 74) % 65537;
        }
        return draw;
    }

    /**
     * A seed whose first days have just these waves: a digit for themselves, c for calm (at most 6),
     * h for high (7 or 8), s for a storm (9).
     */
    static int seedOf(String days) {
        for (int seed = 0; seed <= 65536; seed++) {
            boolean fits = true;
            for (int i = 0; i < days.length() && fits; i++) {
                int waves = drawOf(seed, i) % 10;
                char due = days.charAt(i);
                fits = due == (waves <= 6 ? 'c' : waves <= 8 ? 'h' : 's') || due == '0' + waves;
            }
            if (fits) {
                return seed;
            }
        }
        throw new IllegalStateException("no seed for " + days);
    }

    static CableShip shipIn(String days) {
        CableShip ship = new CableShip();
        ship.weather(seedOf(days));
        return ship;
    }

    /** A line from A to B on the ninth day: spans 36005, 23995, 12005 and 28000, two repeaters and a joint. */
    static CableShip fullLine() {
        return fullLineOfType(1, 36, 72);
    }

    /** A line from A to B on the ninth day, of two pieces of 60000 metres, with repeaters behind so many cells. */
    static CableShip fullLineOfType(int type, int... cellsAheadOfRepeaters) {
        CableShip ship = shipIn("ccccccccc");
        ship.make(type, 60000, 0);
        ship.make(type, 60000, 0);
        layAcross(ship, 0, cellsAheadOfRepeaters);
        return ship;
    }

    /** Lays from the tank 0 to B, 12 cells a day; the first ones with a slack of 50. */
    static void layAcross(CableShip ship, int slackCells, int... cellsAheadOfRepeaters) {
        int cell = ship.line(1);
        while (cell < 100) {
            int end = Math.min(100, cell / 12 * 12 + 12);
            if (cell < slackCells) {
                end = Math.min(end, slackCells);
            }
            for (int each : cellsAheadOfRepeaters) {
                if (each == cell) {
                    ship.repeater();
                } else if (each > cell) {
                    end = Math.min(end, each);
                }
            }
            ship.lay(end - cell, cell < slackCells ? 50 : 0, 0);
            cell = end;
            if (cell % 12 == 0) {
                ship.pass(1);
            }
        }
    }

    static void passUntilCalm(CableShip ship) {
        do {
            ship.pass(1);
        } while (!ship.canWork());
    }
}
