/** What the terms say of playing a line, and promises 10 to 12. */
final class PlayingTest {
    private static final int ALL_TURNS = (1 << 30) - 1;
    private static final int BERTH = MooringTree.BERTH;
    private static final int LEAVE = MooringTree.LEAVE;
    private static final int[] TIDES = {0, 1, 2, 1};

    public static void main(String[] args) {
        terms();
        where();
        cargo();
        failures();
        Check.end();
    }

    private static void terms() {
        Check.says("The tide of a turn is 0, 1, 2 or 1, by the remainder of the turn by 4.", PlayingTest::tides);
        Check.says("ships that come in it wait; then the order of the line is carried out, if it can be",
                PlayingTest::comesAndIsPutInOneTurn);
        Check.says("BERTH for a ship that waits", PlayingTest::berthNeedsAShipThatWaits);
        Check.says("to a berth at which no ship is", PlayingTest::berthMustBeFree);
        Check.says("LEAVE for a ship at a berth without cargo left", PlayingTest::leaveNeedsAnEmptyShipAtABerth);
        Check.says("either only if the tide is at least the draught of the ship.", PlayingTest::leavingNeedsTheTide);
        Check.says("(Otherwise the order fails, and nothing happens.)", PlayingTest::failedOrdersChangeNothing);
        Check.says("Then each ship at a berth unloads as much cargo as the rate of the berth, or what is left,",
                PlayingTest::unloadsTheRateOrWhatIsLeft);
        Check.says("Then each ship at a berth unloads", PlayingTest::unloadsFromThatTurnOn);
    }

    private static void where() {
        Check.says("Returns where a ship is behind a turn of a line.", PlayingTest::whereOfEachLine);
        Check.says("ship: a ship", PlayingTest::whereOfEachShip);
        Check.says("Returns the berth, -1 if it waits, -2 if it has not come, -3 if it has left.",
                PlayingTest::placesOfAShip);
        Check.says("turn: 0 to 29", PlayingTest::whereInEachTurn);
        Check.says("Throws IndexOutOfBoundsException if there is no such line, ship or turn",
                PlayingTest::whereOfNoSuch);
    }

    private static void cargo() {
        Check.says("Returns the cargo of a ship behind a turn of a line.", PlayingTest::cargoOfEachLine);
        Check.says("ship: a ship", PlayingTest::cargoOfEachShip);
        Check.says("turn: 0 to 29", PlayingTest::cargoInEachTurn);
        Check.says("Returns what is left of its cargo.", PlayingTest::whatIsLeft);
        Check.says("Throws IndexOutOfBoundsException if there is no such line, ship or turn",
                PlayingTest::cargoOfNoSuch);
    }

    private static void failures() {
        Check.says("Returns the turns in which the order of a line fails.", PlayingTest::failuresOfEachLine);
        Check.says("Returns the turns, as a set: bit t for the turn t.", PlayingTest::failureBits);
        Check.says("An order is nothing", PlayingTest::nothingNeverFails);
        Check.says("Throws IndexOutOfBoundsException if there is no such line", PlayingTest::failuresOfNoLine);
    }

    private static MooringTree withShips(int ships, int cargo) {
        MooringTree x = new MooringTree();
        for (int ship = 0; ship < ships; ship++) {
            x.addShip(0, 0, cargo);
        }
        return x;
    }

    // ---- terms

    private static void tides() {
        for (int draught : Check.upTo(0, 2)) {
            for (int turn : Check.TURNS) {
                MooringTree x = new MooringTree();
                x.addShip(turn, draught, 1);
                x.order(0, turn, BERTH, 0, 1);
                boolean enough = TIDES[turn % 4] >= draught;
                Check.due("draught " + draught + " in " + turn, enough ? 0 : 1 << turn, x.failures(0));
                Check.due("put or not", enough ? 1 : -1, x.where(0, 0, turn));
            }
        }
    }

    private static void comesAndIsPutInOneTurn() {
        for (int turn : Check.TURNS) {
            MooringTree x = new MooringTree();
            x.addShip(turn, 0, 4);
            x.order(0, turn, BERTH, 0, 2);
            Check.due("put in the turn in which it comes", 2, x.where(0, 0, turn));
            Check.due("unloaded in that turn", 0, x.cargo(0, 0, turn));
            Check.due("it cost nothing", 12, x.look(0, turn));
            if (turn > 0) {
                Check.due("not come in the turn before", -2, x.where(0, 0, turn - 1));
                x.takeAway(0, turn);
                x.order(0, turn - 1, BERTH, 0, 2);
                Check.due("too early by one", 1 << turn - 1, x.failures(0));
                Check.due("it waits then", -1, x.where(0, 0, turn));
            }
        }
    }

    private static void berthNeedsAShipThatWaits() {
        MooringTree x = new MooringTree();
        x.addShip(1, 0, 1);
        x.order(0, 0, BERTH, 0, 0);
        x.order(0, 1, BERTH, 0, 0);
        x.order(0, 2, BERTH, 0, 1);
        x.order(0, 3, BERTH, 0, 0);
        x.order(0, 4, LEAVE, 0, 0);
        x.order(0, 5, BERTH, 0, 0);
        Check.due("not come, at a berth, at that berth, left", 1 | 1 << 2 | 1 << 3 | 1 << 5, x.failures(0));
        Check.due("it did not move", 0, x.where(0, 0, 3));
        Check.due("it did not come back", -3, x.where(0, 0, 29));
    }

    private static void berthMustBeFree() {
        for (int berth : Check.BERTHS) {
            MooringTree x = withShips(2, 8);
            x.order(0, 0, BERTH, 0, berth);
            x.order(0, 1, BERTH, 1, berth);
            x.order(0, 2, BERTH, 1, berth);
            x.order(0, 3, LEAVE, 0, 0);
            x.order(0, 4, BERTH, 1, berth);
            Check.due("taken in 1 and, by a ship without cargo, in 2", 3 << 1, x.failures(0));
            Check.due("it waits", -1, x.where(0, 1, 3));
            Check.due("free in 4", berth, x.where(0, 1, 4));
            x.order(0, 1, BERTH, 1, (berth + 1) % 3);
            Check.due("another berth is free", (berth + 1) % 3, x.where(0, 1, 1));
        }
        MooringTree y = withShips(8, 100);
        for (int turn : Check.upTo(0, 7)) {
            y.order(0, turn, BERTH, turn, turn % 3);
        }
        Check.due("three ships, no more", 0b11111000, y.failures(0));
    }

    private static void leaveNeedsAnEmptyShipAtABerth() {
        MooringTree x = new MooringTree();
        x.addShip(1, 0, 8);
        for (int turn : Check.upTo(0, 5)) {
            x.order(0, turn, turn == 2 ? BERTH : LEAVE, 0, 0);
        }
        Check.due("not come, waits, has cargo, left", 1 | 1 << 1 | 1 << 3 | 1 << 5, x.failures(0));
        Check.due("unloaded behind 3", 0, x.cargo(0, 0, 3));
        Check.due("at the berth behind 3", 0, x.where(0, 0, 3));
        Check.due("left in 4", -3, x.where(0, 0, 4));
        x.setRate(0, 7);
        Check.due("one unit of cargo left", 1, x.cargo(0, 0, 2));
        Check.due("it keeps the ship", 0, x.where(0, 0, 3));
        x.setRate(0, 8);
        Check.due("none left", 0, x.cargo(0, 0, 2));
        Check.due("so it leaves in 3", -3, x.where(0, 0, 3));
        x.setRate(0, 0);
        Check.due("never unloaded, it never leaves", 0, x.where(0, 0, 29));
    }

    private static void leavingNeedsTheTide() {
        for (int draught : Check.upTo(0, 2)) {
            for (int turn : Check.upTo(3, 29)) {
                MooringTree x = new MooringTree();
                x.addShip(0, draught, 1);
                x.order(0, 2, BERTH, 0, 0);
                x.order(0, turn, LEAVE, 0, 0);
                boolean enough = TIDES[turn % 4] >= draught;
                Check.due("draught " + draught + " leaves in " + turn, enough ? -3 : 0, x.where(0, 0, turn));
                Check.due("or fails", enough ? 0 : 1 << turn, x.failures(0));
            }
        }
    }

    /** The ship 0 is at the berth 0 with cargo left, 1 waits and is too deep, 2 has not come, 3 has left. */
    private static MooringTree beforeTurn6() {
        MooringTree x = new MooringTree();
        x.addShip(0, 0, 100);
        x.addShip(0, 2, 20);
        x.addShip(7, 0, 20);
        x.addShip(0, 0, 1);
        x.order(0, 0, BERTH, 3, 1);
        x.order(0, 1, LEAVE, 3, 1);
        x.order(0, 2, BERTH, 0, 0);
        return x;
    }

    private static void failedOrdersChangeNothing() {
        int[][] failing = {
            {BERTH, 0, 0}, {BERTH, 0, 1}, {BERTH, 1, 0}, {BERTH, 1, 1}, {BERTH, 2, 1}, {BERTH, 3, 1},
            {LEAVE, 0, 0}, {LEAVE, 1, 0}, {LEAVE, 2, 0}, {LEAVE, 3, 0},
        };
        for (int[] o : failing) {
            MooringTree due = beforeTurn6();
            MooringTree x = beforeTurn6();
            x.order(0, 5, o[0], o[1], o[2]);
            String name = "order " + o[0] + ", " + o[1] + ", " + o[2];
            Check.due(name + " fails", 1 << 5, x.failures(0));
            for (int turn : Check.upTo(4, 8)) {
                for (int ship : Check.upTo(0, 3)) {
                    Check.due(name + ": where", due.where(0, ship, turn), x.where(0, ship, turn));
                    Check.due(name + ": cargo", due.cargo(0, ship, turn), x.cargo(0, ship, turn));
                }
                Check.due(name + ": earning", due.look(0, turn), x.look(0, turn));
            }
        }
    }

    private static void unloadsTheRateOrWhatIsLeft() {
        for (int rate : Check.upTo(1, 20)) {
            for (int cargo : new int[] {Math.max(1, rate - 1), rate, rate + 1, 2 * rate, 100}) {
                MooringTree x = withShips(1, cargo);
                x.setRate(2, rate);
                x.order(0, 0, BERTH, 0, 2);
                int left = cargo;
                for (int turn : Check.upTo(0, 2)) {
                    left = left > rate ? left - rate : 0;
                    Check.due("of " + cargo + " at " + rate + ", turn " + turn, left, x.cargo(0, 0, turn));
                    Check.due("earned for it", 3 * (cargo - left), x.look(0, turn));
                }
            }
        }
    }

    private static void unloadsFromThatTurnOn() {
        MooringTree x = withShips(2, 100);
        x.order(0, 5, BERTH, 0, 0);
        x.order(0, 6, LEAVE, 0, 0);
        x.order(0, 29, BERTH, 1, 1);
        Check.due("not before", 100, x.cargo(0, 0, 4));
        Check.due("in the turn in which it is put", 96, x.cargo(0, 0, 5));
        Check.due("in a turn in which an order fails", 92, x.cargo(0, 0, 6));
        Check.due("in the turn 29", 0, x.cargo(0, 0, 29));
        Check.due("not in the turn 28, at 25 turns of 4", 4, x.cargo(0, 0, 28));
        Check.due("put in the turn 29", 96, x.cargo(0, 1, 29));
        Check.due("a ship that waits does not unload", 100, x.cargo(0, 1, 28));
    }

    // ---- promise 10

    /** A line for each place: the fork 1 puts the ship to 0, the fork 2 to 1, the fork 3 to 2, the fork 4 lets it go. */
    private static MooringTree withFourForks() {
        MooringTree x = withShips(1, 12);
        for (int fork : Check.upTo(1, 4)) {
            x.fork(fork == 4 ? 1 : 0, 1);
        }
        for (int fork : Check.upTo(1, 3)) {
            x.order(fork, fork, BERTH, 0, fork - 1);
        }
        x.order(4, 4, LEAVE, 0, 0);
        return x;
    }

    private static void whereOfEachLine() {
        MooringTree x = withFourForks();
        int[] due = {-1, 0, 1, 2, -3};
        for (int line : Check.upTo(0, 4)) {
            Check.due("the line " + line, due[line], x.where(line, 0, 29));
            Check.due("the turn 0 of it", -1, x.where(line, 0, 0));
        }
        x.order(0, 0, BERTH, 0, 2);
        for (int line : Check.upTo(0, 4)) {
            Check.due("an early order of the teacher", line == 4 ? -3 : 2, x.where(line, 0, 29));
        }
    }

    private static void whereOfEachShip() {
        MooringTree x = withShips(8, 4);
        for (int ship : Check.SHIPS) {
            x.order(0, 2 * ship, BERTH, ship, ship % 3);
            x.order(0, 2 * ship + 1, LEAVE, ship, 0);
        }
        for (int ship : Check.SHIPS) {
            Check.due("ship " + ship + " is put", ship % 3, x.where(0, ship, 2 * ship));
            Check.due("it leaves", -3, x.where(0, ship, 2 * ship + 1));
            if (ship > 0) {
                Check.due("it waited", -1, x.where(0, ship, 2 * ship - 1));
            }
        }
        Check.due("nothing failed", 0, x.failures(0));
    }

    private static void placesOfAShip() {
        for (int berth : Check.BERTHS) {
            MooringTree x = new MooringTree();
            x.addShip(2, 0, 10);
            x.order(0, 4, BERTH, 0, berth);
            x.order(0, 7, LEAVE, 0, 0);
            int[] places = {-2, -2, -1, -1, berth, berth, berth, -3, -3};
            for (int turn = 0; turn < places.length; turn++) {
                Check.due("turn " + turn, places[turn], x.where(0, 0, turn));
            }
            Check.due("at the end", -3, x.where(0, 0, 29));
        }
        MooringTree y = new MooringTree();
        y.addShip(29, 0, 1);
        Check.due("the last turn in which it has not come", -2, y.where(0, 0, 28));
        Check.due("it waits", -1, y.where(0, 0, 29));
        y.order(0, 29, BERTH, 0, 0);
        Check.due("the berth 0", 0, y.where(0, 0, 29));
        MooringTree z = withShips(1, 1);
        z.order(0, 0, BERTH, 0, 2);
        z.order(0, 29, LEAVE, 0, 0);
        Check.due("the berth 2, in the turn 0", 2, z.where(0, 0, 0));
        Check.due("until the turn 28", 2, z.where(0, 0, 28));
        Check.due("it leaves in the turn 29", -3, z.where(0, 0, 29));
    }

    private static void whereInEachTurn() {
        for (int put : Check.TURNS) {
            MooringTree x = withShips(1, 100);
            x.order(0, put, BERTH, 0, 1);
            for (int turn : Check.TURNS) {
                Check.due("put in " + put + ", turn " + turn, turn < put ? -1 : 1, x.where(0, 0, turn));
            }
        }
        MooringTree y = withShips(1, 1);
        Check.dueThrows("turn", Check.INDEX, Check.NO_TURNS, turn -> y.where(0, 0, turn));
    }

    private static void whereOfNoSuch() {
        MooringTree x = withShips(2, 1);
        x.fork(0, 0);
        int[] wrong = Check.outside(0, 1);
        Check.dueThrows("line", Check.INDEX, wrong, line -> x.where(line, 0, 0));
        Check.dueThrows("ship", Check.INDEX, wrong, ship -> x.where(1, ship, 29));
        Check.dueThrows("turn", Check.INDEX, Check.NO_TURNS, turn -> x.where(1, 1, turn));
        Check.dueThrows("line and ship", Check.INDEX, wrong, both -> x.where(both, both, 0));
        Check.dueThrows("ship and turn", Check.INDEX, Check.NO_TURNS, both -> x.where(0, both, both));
        Check.dueThrows("all", Check.INDEX, Check.NO_TURNS, all -> x.where(all, all, all));
    }

    // ---- promise 11

    private static void cargoOfEachLine() {
        MooringTree x = withFourForks();
        x.setRate(0, 1);
        x.setRate(1, 2);
        x.setRate(2, 3);
        int[] due = {12, 8, 6, 6, 8};
        for (int line : Check.upTo(0, 4)) {
            Check.due("the line " + line, due[line], x.cargo(line, 0, 4));
            Check.due("the turn 0 of it", 12, x.cargo(line, 0, 0));
        }
    }

    private static void cargoOfEachShip() {
        MooringTree x = new MooringTree();
        for (int ship : Check.SHIPS) {
            x.addShip(0, 0, 50 + ship);
        }
        for (int berth : Check.BERTHS) {
            x.setRate(berth, 10 + berth);
            x.order(0, berth, BERTH, 7 - berth, berth);
        }
        int[] due = {50, 51, 52, 53, 54, 55 - 12, 56 - 22, 57 - 30};
        for (int ship : Check.SHIPS) {
            Check.due("ship " + ship, due[ship], x.cargo(0, ship, 2));
        }
    }

    private static void cargoInEachTurn() {
        MooringTree x = withShips(1, 100);
        x.setRate(2, 3);
        x.order(0, 0, BERTH, 0, 2);
        for (int turn : Check.TURNS) {
            Check.due("turn " + turn, 97 - 3 * turn, x.cargo(0, 0, turn));
        }
        Check.dueThrows("turn", Check.INDEX, Check.NO_TURNS, turn -> x.cargo(0, 0, turn));
    }

    private static void whatIsLeft() {
        MooringTree x = new MooringTree();
        x.addShip(2, 0, 10);
        x.order(0, 4, BERTH, 0, 2);
        x.order(0, 7, LEAVE, 0, 0);
        int[] cargos = {10, 10, 10, 10, 6, 2, 0, 0, 0};
        for (int turn = 0; turn < cargos.length; turn++) {
            Check.due("turn " + turn, cargos[turn], x.cargo(0, 0, turn));
        }
        Check.due("at the end", 0, x.cargo(0, 0, 29));
        MooringTree y = new MooringTree();
        y.addShip(29, 0, 100);
        Check.due("all of it before it comes", 100, y.cargo(0, 0, 28));
        Check.due("all of it while it waits", 100, y.cargo(0, 0, 29));
        y.order(0, 29, BERTH, 0, 0);
        Check.due("unloaded in the last turn", 96, y.cargo(0, 0, 29));
        y.fork(0, 0);
        for (int turn : Check.upTo(0, 28)) {
            y.order(1, turn, turn % 2 + 1, 0, 0);
            Check.due("none is unloaded before it comes: " + turn, 100, y.cargo(1, 0, turn));
            Check.due("nothing is earned for it", 0, y.look(1, turn));
        }
    }

    private static void cargoOfNoSuch() {
        MooringTree x = withShips(2, 1);
        x.fork(0, 0);
        int[] wrong = Check.outside(0, 1);
        Check.dueThrows("line", Check.INDEX, wrong, line -> x.cargo(line, 0, 0));
        Check.dueThrows("ship", Check.INDEX, wrong, ship -> x.cargo(1, ship, 29));
        Check.dueThrows("turn", Check.INDEX, Check.NO_TURNS, turn -> x.cargo(1, 1, turn));
        Check.dueThrows("line and ship", Check.INDEX, wrong, both -> x.cargo(both, both, 0));
        Check.dueThrows("ship and turn", Check.INDEX, Check.NO_TURNS, both -> x.cargo(0, both, both));
        Check.dueThrows("all", Check.INDEX, Check.NO_TURNS, all -> x.cargo(all, all, all));
    }

    // ---- promise 12

    private static void failuresOfEachLine() {
        MooringTree x = withShips(1, 1);
        for (int fork : Check.upTo(1, 8)) {
            x.fork(fork - 1, 0);
        }
        x.order(0, 0, LEAVE, 0, 0);
        int due = 1;
        for (int line : Check.upTo(1, 8)) {
            x.order(line, 3 * line, LEAVE, 0, 0);
        }
        for (int line : Check.upTo(0, 8)) {
            due |= 1 << 3 * line;
            Check.due("the line " + line, due, x.failures(line));
        }
        x.order(8, 0, BERTH, 0, 0);
        Check.due("the own order does not fail, so that of 3 does not", due & ~(1 | 1 << 3), x.failures(8));
        Check.due("the line below", 1 | 1 << 3, x.failures(1));
    }

    private static void failureBits() {
        for (int turn : Check.TURNS) {
            MooringTree x = withShips(1, 1);
            Check.due("none", 0, x.failures(0));
            x.order(0, turn, LEAVE, 0, 0);
            Check.due("the turn " + turn + " alone", 1 << turn, x.failures(0));
        }
        MooringTree y = withShips(1, 1);
        for (int turn : Check.TURNS) {
            y.order(0, turn, LEAVE, 0, 0);
        }
        Check.due("all turns", ALL_TURNS, y.failures(0));
        y.order(0, 0, BERTH, 0, 0);
        Check.due("put in 0, left in 1", ALL_TURNS & ~3, y.failures(0));
    }

    private static void nothingNeverFails() {
        MooringTree x = new MooringTree();
        x.addShip(29, 2, 1);
        Check.due("no order at all", 0, x.failures(0));
        for (int turn : Check.TURNS) {
            x.order(0, turn, 0, 0, 0);
        }
        Check.due("orders of nothing", 0, x.failures(0));
        x.order(0, 29, BERTH, 0, 0);
        Check.due("the last turn fails", 1 << 29, x.failures(0));
    }

    private static void failuresOfNoLine() {
        MooringTree x = new MooringTree();
        Check.dueThrows("without forks, line", Check.INDEX, Check.outside(0, 0), line -> x.failures(line));
        for (int forks : Check.upTo(1, 8)) {
            x.fork(0, 0);
            Check.dueThrows("with " + forks + " forks, line", Check.INDEX, Check.outside(0, forks),
                    line -> x.failures(line));
        }
    }
}
