import java.util.ArrayList;
import java.util.List;

/** The bounds in what the document says of links, demands and restoring: right at each, and right past it. */
public final class OtherLinesBoundsTest extends ShipTestBase {
    public static void main(String[] args) {
        atMost6Links();
        eachTwoStations();
        capacitiesAtTheirBounds();
        thisLineHas8();
        thisLineIsDeadIfItDoesNotWork();
        othersAreDeadIfItIsTold();
        atMost10Demands();
        wavesAtTheirBounds();
        asMuchFreeAsItNeeds();
        theFewestLinks();
        theFirstLinkThatDiffersIsLower();
        aWayOfThreeLinks();
        eachWayOfSmallNets();
        darkWithoutAWay();
        carriedAtOnce();
        theWayIsKeptUntilItIsRestored();
        whatIsTakenOffFreesAllItsLinks();
        byRisingNumbers();
        onlyThoseOverDeadLinksAreTakenOff();
        howManyAreDark();
        litByLinksOfWhichNoneIsDead();
        end();
    }

    /** Links are told as three numbers each; they have the numbers from 1 on. */
    private static CableShip net(int... links) {
        CableShip ship = new CableShip();
        addLinks(ship, links);
        return ship;
    }

    private static void addLinks(CableShip ship, int... links) {
        for (int i = 0; i < links.length; i += 3) {
            ship.link(links[i], links[i + 1], links[i + 2]);
        }
    }

    /** This line lies at B, and works. */
    private static CableShip working() {
        CableShip ship = fullLine();
        ship.feed(9999, 9999);
        return ship;
    }

    private static void wayIs(String of, CableShip ship, int demand, int due) {
        is("the way of " + of, ship.way(demand), due);
        is("isLit of " + of, ship.isLit(demand), due != 0);
    }

    // ---- links

    private static void atMost6Links() {
        promise = 16;
        CableShip ship = new CableShip();
        for (int i = 1; i <= 5; i++) {
            is("link " + i, ship.link(i % 4, (i + 1) % 4, 1), i);
        }
        fails("a seventh link, with this line", STATE, () -> ship.link(0, 1, 1));
        is("the last one may be dead", ship.dead(5, true), false);
        fails("there is no seventh", INDEX, () -> ship.dead(6, true));
    }

    private static void eachTwoStations() {
        promise = 16;
        for (int a = 0; a < 4; a++) {
            for (int b = 0; b < 4; b++) {
                CableShip ship = new CableShip();
                int from = a;
                int to = b;
                fails("link(" + a + ", " + b + ", 3)", a == b ? ARGUMENT : null, () -> ship.link(from, to, 3));
                fails("demand(" + a + ", " + b + ", 3)", a == b ? ARGUMENT : null, () -> ship.demand(from, to, 3));
                if (a != b) {
                    wayIs("a demand on that link", ship, 0, 2);
                    ship.demand(b, a, 1);
                    is("the way of one that is too great for the rest", ship.way(1), 0);
                }
            }
        }
    }

    private static void capacitiesAtTheirBounds() {
        promise = 16;
        CableShip one = net(2, 3, 1);
        one.demand(2, 3, 2);
        wayIs("2 waves over a capacity of 1", one, 0, 0);
        one.demand(2, 3, 1);
        wayIs("1 wave over a capacity of 1", one, 1, 2);
        CableShip twenty = net(2, 3, 20);
        int[] waves = {8, 8, 5, 4, 1};
        int[] ways = {2, 2, 0, 2, 0};
        for (int i = 0; i < 5; i++) {
            twenty.demand(2, 3, waves[i]);
            wayIs("demand " + i + " over a capacity of 20", twenty, i, ways[i]);
        }
    }

    private static void thisLineHas8() {
        promise = 18;
        CableShip ship = working();
        ship.demand(0, 1, 8);
        wayIs("8 waves over this line", ship, 0, 1);
        ship.demand(1, 0, 1);
        wayIs("a ninth", ship, 1, 0);
        CableShip parts = working();
        parts.demand(1, 0, 7);
        wayIs("7 waves, from 1 to 0", parts, 0, 1);
        parts.demand(0, 1, 2);
        wayIs("2 more", parts, 1, 0);
        parts.demand(0, 1, 1);
        wayIs("1 more", parts, 2, 1);
        parts.demand(0, 2, 1);
        wayIs("one to the station 2", parts, 3, 0);
        parts.demand(2, 3, 1);
        wayIs("one between the stations 2 and 3", parts, 4, 0);
    }

    private static void thisLineIsDeadIfItDoesNotWork() {
        promise = 18;
        CableShip ship = fullLine();
        ship.feed(1078, 0);
        ship.demand(0, 1, 1);
        wayIs("a demand over a line that is not fed", ship, 0, 0);
        ship.feed(1079, 0);
        ship.demand(0, 1, 1);
        wayIs("a demand over a line that works", ship, 1, 1);
        is("the other one waits until all is restored", ship.way(0), 0);
        is("restore()", ship.restore(), 0);
        wayIs("the other one", ship, 0, 1);
        ship.fault(BREAK, 7);
        is("restore() with a break", ship.restore(), 2);
        ship.mend(0, 0);
        ship.feed(9999, 0);
        is("restore() when it is mended", ship.restore(), 0);
    }

    private static void othersAreDeadIfItIsTold() {
        promise = 17;
        CableShip ship = net(2, 3, 5, 2, 3, 5);
        is("dead(1, true)", ship.dead(1, true), false);
        is("dead(1, true) again", ship.dead(1, true), true);
        is("dead(2, false)", ship.dead(2, false), false);
        ship.demand(2, 3, 1);
        wayIs("a demand while the link 1 is dead", ship, 0, 4);
        is("dead(1, false)", ship.dead(1, false), true);
        is("dead(1, false) again", ship.dead(1, false), false);
        ship.demand(2, 3, 1);
        wayIs("a demand when it is no longer dead", ship, 1, 2);
        fails("dead(0, true)", ARGUMENT, () -> ship.dead(0, true));
        fails("dead(3, true)", INDEX, () -> ship.dead(3, true));
        fails("dead(-1, true)", INDEX, () -> ship.dead(-1, true));
    }

    // ---- demands

    private static void atMost10Demands() {
        promise = 18;
        CableShip ship = net(2, 3, 20);
        for (int i = 0; i < 10; i++) {
            is("demand " + i, ship.demand(2, 3, i < 5 ? 4 : 1), i);
        }
        fails("an eleventh", STATE, () -> ship.demand(2, 3, 1));
        is("the way of the last one that is carried", ship.way(4), 2);
        is("the way of the first dark one", ship.way(5), 0);
        is("the way of the last one", ship.way(9), 0);
        fails("the way of an eleventh", INDEX, () -> ship.way(10));
        fails("isLit of an eleventh", INDEX, () -> ship.isLit(10));
    }

    private static void wavesAtTheirBounds() {
        promise = 18;
        CableShip ship = net(2, 3, 9);
        fails("0 waves", ARGUMENT, () -> ship.demand(2, 3, 0));
        fails("9 waves", ARGUMENT, () -> ship.demand(2, 3, 9));
        fails("no demand came of these", INDEX, () -> ship.way(0));
        is("8 waves", ship.demand(2, 3, 8), 0);
        is("1 wave", ship.demand(2, 3, 1), 1);
        wayIs("8 waves", ship, 0, 2);
        wayIs("1 wave", ship, 1, 2);
        ship.demand(2, 3, 1);
        wayIs("a tenth wave", ship, 2, 0);
    }

    private static void asMuchFreeAsItNeeds() {
        promise = 18;
        CableShip ship = net(0, 2, 5, 2, 3, 4);
        ship.demand(0, 3, 5);
        wayIs("5 waves, of which the second link has room for 4", ship, 0, 0);
        ship.demand(0, 3, 4);
        wayIs("4 waves", ship, 1, 6);
        ship.demand(0, 2, 2);
        wayIs("2 waves where 1 is free", ship, 2, 0);
        ship.demand(0, 2, 1);
        wayIs("1 wave where 1 is free", ship, 3, 2);
        CableShip around = net(2, 3, 3, 2, 1, 9, 1, 3, 9);
        around.demand(2, 3, 3);
        wayIs("3 waves, straight", around, 0, 2);
        around.demand(2, 3, 1);
        wayIs("1 wave, around", around, 1, 4 | 8);
    }

    private static void theFewestLinks() {
        promise = 18;
        CableShip ship = net(0, 2, 9, 2, 3, 9, 3, 1, 9, 0, 3, 2, 1, 0, 1);
        ship.demand(0, 1, 1);
        wayIs("one link, though it is the last one", ship, 0, 32);
        ship.demand(0, 1, 2);
        wayIs("two links, though one is higher", ship, 1, 16 | 8);
        ship.demand(0, 1, 1);
        wayIs("three links", ship, 2, 2 | 4 | 8);
    }

    private static void theFirstLinkThatDiffersIsLower() {
        promise = 18;
        CableShip twins = net(2, 3, 9, 2, 3, 9);
        twins.demand(3, 2, 1);
        wayIs("the lower one of two", twins, 0, 2);
        CableShip first = net(2, 1, 9, 0, 3, 9, 3, 1, 9, 0, 2, 9);
        first.demand(0, 1, 1);
        wayIs("the lower first link, though the other way's second is the lowest", first, 0, 4 | 8);
        first.demand(1, 0, 1);
        wayIs("from the other end", first, 1, 2 | 16);
        CableShip second = net(0, 2, 9, 2, 3, 9, 2, 3, 9);
        second.demand(0, 3, 1);
        wayIs("the lower second link", second, 0, 2 | 4);
        CableShip third = net(0, 2, 9, 2, 3, 9, 3, 1, 9, 3, 1, 9);
        third.demand(0, 1, 1);
        wayIs("the lower third link", third, 0, 2 | 4 | 8);
    }

    private static void aWayOfThreeLinks() {
        promise = 18;
        int[][] orders = {{0, 2, 9, 2, 3, 9, 3, 1, 9}, {3, 1, 9, 2, 3, 9, 0, 2, 9}, {2, 3, 9, 0, 2, 9, 3, 1, 9},
            {1, 3, 9, 2, 0, 9, 3, 2, 9}};
        for (int[] each : orders) {
            CableShip ship = net(each);
            ship.demand(0, 1, 1);
            wayIs("three links in a row", ship, 0, 14);
            ship.demand(1, 0, 1);
            wayIs("three links, from the other end", ship, 1, 14);
        }
    }

    /** All rows of links from a to b, the shortest first, of these the lowest in its order; not by the class's means. */
    private static int lowestWay(List<int[]> links, int a, int b) {
        for (int length = 1; length <= 3; length++) {
            int found = search(links, a, b, length, 1);
            if (found != 0) {
                return found;
            }
        }
        return 0;
    }

    /** The bits of the lowest row of just so many links; the lowest bit stands for the way's end. */
    private static int search(List<int[]> links, int a, int b, int length, int unused) {
        if (length == 0) {
            return a == b ? unused : 0;
        }
        for (int i = 0; i < links.size(); i++) {
            int[] each = links.get(i);
            if (each[0] == a || each[1] == a) {
                int rest = search(links, each[0] + each[1] - a, b, length - 1, unused);
                if (rest != 0) {
                    return rest | 2 << i;
                }
            }
        }
        return 0;
    }

    private static void eachWayOfSmallNets() {
        promise = 18;
        int[][] pairs = {{0, 1}, {0, 2}, {0, 3}, {1, 2}, {1, 3}, {2, 3}};
        for (int code = 0; code < 7776; code++) {
            List<int[]> links = new ArrayList<>();
            CableShip ship = new CableShip();
            for (int i = 0, rest = code; i < 5; i++, rest /= 6) {
                int[] pair = pairs[rest % 6];
                links.add(pair);
                ship.link(pair[i % 2], pair[1 - i % 2], 20);
            }
            for (int i = 0; i < 3; i++) {
                int a = (code + i) % 4;
                int b = (a + 1 + code / 4 % 3) % 4;
                ship.demand(a, b, 1);
                int due = lowestWay(links, a, b);
                is("a way in the net " + code + " from " + a + " to " + b, ship.way(i), due & ~1);
            }
        }
    }

    private static void darkWithoutAWay() {
        promise = 20;
        CableShip ship = new CableShip();
        ship.demand(0, 1, 1);
        wayIs("a demand over this line, which does not lie", ship, 0, 0);
        ship.demand(2, 3, 1);
        wayIs("a demand without any link", ship, 1, 0);
        ship.link(0, 2, 9);
        ship.demand(0, 3, 1);
        wayIs("a demand to a station without a link", ship, 2, 0);
        ship.link(2, 3, 9);
        is("a dark one stays dark", ship.way(2), 0);
        is("restore()", ship.restore(), 1);
        wayIs("it is carried then", ship, 2, 6);
    }

    private static void carriedAtOnce() {
        promise = 18;
        CableShip ship = net(2, 3, 4);
        ship.demand(2, 3, 4);
        wayIs("at once", ship, 0, 2);
        CableShip dead = net(2, 3, 4);
        dead.dead(1, true);
        dead.demand(2, 3, 4);
        wayIs("not over a dead link", dead, 0, 0);
        dead.dead(1, false);
        wayIs("nor when it is no longer dead", dead, 0, 0);
        dead.demand(2, 3, 4);
        wayIs("a later one is carried", dead, 1, 2);
        is("restore()", dead.restore(), 1);
        wayIs("and has the room then", dead, 1, 2);
    }

    // ---- restoring

    private static void theWayIsKeptUntilItIsRestored() {
        promise = 19;
        CableShip ship = net(2, 3, 4, 2, 0, 9, 0, 3, 9);
        ship.demand(2, 3, 4);
        ship.dead(1, true);
        is("the way over a dead link", ship.way(0), 2);
        is("isLit over a dead link", ship.isLit(0), false);
        ship.demand(2, 3, 1);
        wayIs("a new one goes around", ship, 1, 12);
        ship.dead(1, false);
        is("isLit when it is no longer dead", ship.isLit(0), true);
        ship.demand(2, 3, 1);
        wayIs("its waves were not free in the meantime", ship, 2, 12);
        ship.dead(1, true);
        is("restore()", ship.restore(), 0);
        wayIs("around then", ship, 0, 12);
    }

    private static void whatIsTakenOffFreesAllItsLinks() {
        promise = 19;
        CableShip ship = net(0, 2, 4, 2, 3, 4);
        ship.demand(0, 3, 4);
        ship.demand(0, 2, 3);
        wayIs("the second one, without room", ship, 1, 0);
        ship.dead(2, true);
        ship.demand(0, 2, 1);
        wayIs("a third one, as the first one has its waves still", ship, 2, 0);
        is("restore()", ship.restore(), 1);
        wayIs("the first one", ship, 0, 0);
        wayIs("the second one", ship, 1, 2);
        wayIs("the third one", ship, 2, 2);
        CableShip later = net(0, 2, 4, 2, 3, 4);
        later.dead(1, true);
        later.demand(0, 2, 4);
        later.dead(1, false);
        later.demand(0, 3, 1);
        wayIs("the first one, dark", later, 0, 0);
        wayIs("the second one, carried", later, 1, 6);
        later.dead(2, true);
        is("restore()", later.restore(), 1);
        wayIs("the first one, as the second one was taken off before", later, 0, 2);
        wayIs("the second one", later, 1, 0);
    }

    private static void byRisingNumbers() {
        promise = 19;
        CableShip ship = net(2, 3, 4);
        ship.dead(1, true);
        int[] waves = {3, 2, 1, 1};
        for (int each : waves) {
            ship.demand(2, 3, each);
        }
        is("restore() while it is dead", ship.restore(), 4);
        ship.dead(1, false);
        is("restore()", ship.restore(), 2);
        int[] ways = {2, 0, 2, 0};
        for (int i = 0; i < 4; i++) {
            wayIs("the demand " + i, ship, i, ways[i]);
        }
    }

    private static void onlyThoseOverDeadLinksAreTakenOff() {
        promise = 19;
        CableShip ship = net(0, 2, 9, 2, 3, 9);
        ship.demand(0, 3, 1);
        ship.link(0, 3, 9);
        is("restore()", ship.restore(), 0);
        wayIs("one that is carried, though there is a shorter way", ship, 0, 6);
        ship.dead(2, true);
        ship.dead(2, false);
        is("restore()", ship.restore(), 0);
        wayIs("one whose link was dead in the meantime", ship, 0, 6);
        ship.dead(2, true);
        is("restore()", ship.restore(), 0);
        wayIs("one over a dead link", ship, 0, 8);
        ship.dead(2, false);
        is("restore()", ship.restore(), 0);
        wayIs("it does not go back", ship, 0, 8);
    }

    private static void howManyAreDark() {
        promise = 19;
        CableShip ship = net(2, 3, 4);
        is("of none", ship.restore(), 0);
        for (int i = 0; i < 10; i++) {
            ship.demand(2, 3, 1);
        }
        is("of ten, of which four have room", ship.restore(), 6);
        ship.dead(1, true);
        is("of ten over a dead link", ship.restore(), 10);
        is("again", ship.restore(), 10);
        ship.link(3, 2, 20);
        is("of ten over a new link", ship.restore(), 0);
    }

    private static void litByLinksOfWhichNoneIsDead() {
        promise = 21;
        for (int dead = 1; dead <= 5; dead++) {
            CableShip ship = net(0, 2, 9, 2, 3, 9, 3, 1, 9, 1, 2, 9, 0, 3, 9);
            ship.dead(4, true);
            ship.dead(5, true);
            ship.demand(0, 1, 1);
            ship.dead(4, false);
            ship.dead(5, false);
            wayIs("three links", ship, 0, 14);
            ship.dead(dead, true);
            is("isLit with the link " + dead + " dead", ship.isLit(0), dead > 3);
        }
        CableShip line = working();
        line.link(1, 2, 9);
        line.demand(0, 2, 1);
        wayIs("over this line and another", line, 0, 3);
        line.fault(BREAK, 0);
        is("isLit when this line breaks", line.isLit(0), false);
        is("the way is kept", line.way(0), 3);
        line.mend(0, 0);
        is("isLit when it is mended", line.isLit(0), true);
    }
}
