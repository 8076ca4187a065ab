/** Promises 10 to 12: where, cargo, failures. */
final class PlayingTest {
    private static final int[] NO_TURNS = {-1, 30, Integer.MIN_VALUE, Integer.MAX_VALUE};
    private static final int BERTH = MooringTree.BERTH;
    private static final int LEAVE = MooringTree.LEAVE;

    public static void main(String[] args) {
        lifeOfAShip();
        tides();
        leavingNeedsTheTide();
        berthNeedsAShipThatWaits();
        berthMustBeFree();
        leaveNeedsAnEmptyShipAtABerth();
        failedOrderChangesNothing();
        nothingNeverFails();
        forkIsPlayedWithItsOrders();
        playingIsNoLook();
        shipAddedLater();
        refusals();
        Check.end();
    }

    private static void lifeOfAShip() {
        MooringTree x = new MooringTree();
        x.addShip(2, 0, 10);
        x.order(0, 4, BERTH, 0, 2);
        x.order(0, 7, LEAVE, 0, 0);
        int[] places = {-2, -2, -1, -1, 2, 2, 2, -3, -3};
        int[] cargos = {10, 10, 10, 10, 6, 2, 0, 0, 0};
        for (int turn = 0; turn < places.length; turn++) {
            Check.due("where, turn " + turn, places[turn], x.where(0, 0, turn));
            Check.due("cargo, turn " + turn, cargos[turn], x.cargo(0, 0, turn));
        }
        Check.due("where at the end", -3, x.where(0, 0, 29));
        Check.due("cargo at the end", 0, x.cargo(0, 0, 29));
        Check.due("no failures", 0, x.failures(0));
    }

    /** Which turns refuse a ship of a draught, told by one order a turn, each on a new harbour. */
    private static int refusingTurns(int draught) {
        int turns = 0;
        for (int turn = 0; turn < 30; turn++) {
            MooringTree x = new MooringTree();
            x.addShip(turn, draught, 1);
            x.order(0, turn, BERTH, 0, 0);
            turns |= x.failures(0);
            Check.due("put or not", x.failures(0) == 0 ? 0 : -1, x.where(0, 0, turn));
        }
        return turns;
    }

    private static void tides() {
        int low = 0;
        int notHigh = 0;
        for (int turn = 0; turn < 30; turn++) {
            low |= turn % 4 == 0 ? 1 << turn : 0;
            notHigh |= turn % 4 != 2 ? 1 << turn : 0;
        }
        Check.due("draught 0", 0, refusingTurns(0));
        Check.due("draught 1", low, refusingTurns(1));
        Check.due("draught 2", notHigh, refusingTurns(2));
    }

    private static void leavingNeedsTheTide() {
        MooringTree x = new MooringTree();
        x.addShip(0, 2, 1);
        x.order(0, 2, BERTH, 0, 0);
        for (int turn = 3; turn < 8; turn++) {
            x.order(0, turn, LEAVE, 0, 0);
        }
        Check.due("it leaves in 6; then it has left", 1 << 3 | 1 << 4 | 1 << 5 | 1 << 7, x.failures(0));
        Check.due("still at the berth", 0, x.where(0, 0, 5));
        Check.due("left", -3, x.where(0, 0, 6));
    }

    private static void berthNeedsAShipThatWaits() {
        MooringTree x = new MooringTree();
        x.addShip(1, 0, 1);
        x.order(0, 0, BERTH, 0, 0);
        x.order(0, 1, BERTH, 0, 0);
        x.order(0, 2, BERTH, 0, 1);
        x.order(0, 3, BERTH, 0, 0);
        x.order(0, 4, LEAVE, 0, 0);
        x.order(0, 5, BERTH, 0, 0);
        Check.due("not come, at a berth, at that berth, left", 1 | 1 << 2 | 1 << 3 | 1 << 5, x.failures(0));
        Check.due("it did not move", 0, x.where(0, 0, 3));
        Check.due("it did not come back", -3, x.where(0, 0, 5));
    }

    private static void berthMustBeFree() {
        MooringTree x = new MooringTree();
        x.addShip(0, 0, 4);
        x.addShip(0, 0, 4);
        x.order(0, 0, BERTH, 0, 1);
        x.order(0, 1, BERTH, 1, 1);
        x.order(0, 2, LEAVE, 0, 0);
        x.order(0, 3, BERTH, 1, 1);
        Check.due("taken in 1", 1 << 1, x.failures(0));
        Check.due("it waits", -1, x.where(0, 1, 2));
        Check.due("free in 3", 1, x.where(0, 1, 3));
        x.order(0, 1, BERTH, 1, 2);
        Check.due("another berth is free", 1 << 3, x.failures(0));
    }

    private static void leaveNeedsAnEmptyShipAtABerth() {
        MooringTree x = new MooringTree();
        x.addShip(1, 0, 8);
        x.order(0, 0, LEAVE, 0, 0);
        x.order(0, 1, LEAVE, 0, 0);
        x.order(0, 2, BERTH, 0, 0);
        x.order(0, 3, LEAVE, 0, 0);
        x.order(0, 4, LEAVE, 0, 0);
        x.order(0, 5, LEAVE, 0, 0);
        Check.due("not come, waits, has cargo, left", 1 | 1 << 1 | 1 << 3 | 1 << 5, x.failures(0));
        Check.due("unloaded behind 3", 0, x.cargo(0, 0, 3));
        Check.due("left in 4", -3, x.where(0, 0, 4));
        x.setRate(0, 7);
        Check.due("a last unit of cargo keeps it", 1, x.cargo(0, 0, 2));
        Check.due("it leaves in 4 again", -3, x.where(0, 0, 4));
        Check.due("failures as before", 1 | 1 << 1 | 1 << 3 | 1 << 5, x.failures(0));
    }

    private static void failedOrderChangesNothing() {
        MooringTree x = new MooringTree();
        x.addShip(0, 0, 20);
        x.order(0, 0, BERTH, 0, 0);
        x.order(0, 1, LEAVE, 0, 0);
        Check.due("failed", 1 << 1, x.failures(0));
        Check.due("it stays", 0, x.where(0, 0, 1));
        Check.due("it unloads in that turn too", 12, x.cargo(0, 0, 1));
    }

    private static void nothingNeverFails() {
        MooringTree x = new MooringTree();
        x.addShip(29, 2, 1);
        for (int turn = 0; turn < 30; turn++) {
            x.order(0, turn, 0, 0, 0);
        }
        Check.due("nothing fails", 0, x.failures(0));
        x.order(0, 29, BERTH, 0, 0);
        Check.due("the last turn fails", 1 << 29, x.failures(0));
    }

    private static void forkIsPlayedWithItsOrders() {
        MooringTree x = new MooringTree();
        x.addShip(0, 0, 10);
        x.order(0, 1, BERTH, 0, 0);
        x.fork(0, 1);
        x.order(1, 1, BERTH, 0, 2);
        x.order(1, 3, BERTH, 0, 1);
        Check.due("the teacher's line", 0, x.where(0, 0, 5));
        Check.due("the fork", 2, x.where(1, 0, 5));
        Check.due("the teacher's failures", 0, x.failures(0));
        Check.due("the fork's failures", 1 << 3, x.failures(1));
        x.setRate(2, 1);
        Check.due("the teacher's cargo", 2, x.cargo(0, 0, 2));
        Check.due("the fork's cargo", 8, x.cargo(1, 0, 2));
        x.order(0, 0, BERTH, 0, 1);
        Check.due("an early order counts in the fork", 1, x.where(1, 0, 5));
    }

    private static void playingIsNoLook() {
        MooringTree x = new MooringTree();
        x.addShip(0, 0, 10);
        x.fork(0, 0);
        for (int line = 0; line < 2; line++) {
            x.where(line, 0, 29);
            x.cargo(line, 0, 29);
            x.failures(line);
            x.orderOf(line, 29);
            x.differences(0, line);
            x.mark(line);
            x.ahead(line);
            x.best();
            Check.due("not seen", -1, x.seen(line));
        }
    }

    private static void shipAddedLater() {
        MooringTree x = new MooringTree();
        x.addShip(0, 0, 10);
        x.fork(0, 5);
        x.look(1, 29);
        x.addShip(3, 0, 7);
        Check.due("it is in the fork", -1, x.where(1, 1, 3));
        Check.due("not come", -2, x.where(1, 1, 2));
        Check.due("its cargo before it comes", 7, x.cargo(1, 1, 2));
        Check.due("it costs", -57, x.look(1, 29));
    }

    private static void refusals() {
        MooringTree x = new MooringTree();
        x.addShip(0, 0, 10);
        x.addShip(0, 0, 10);
        x.fork(0, 0);
        for (int turn : NO_TURNS) {
            Check.dueThrow("where, turn " + turn, Check.INDEX, () -> x.where(0, 1, turn));
            Check.dueThrow("cargo, turn " + turn, Check.INDEX, () -> x.cargo(0, 1, turn));
        }
        for (int wrong : new int[] {-1, 2, 8, 9, Integer.MIN_VALUE, Integer.MAX_VALUE}) {
            Check.dueThrow("where, ship " + wrong, Check.INDEX, () -> x.where(0, wrong, 0));
            Check.dueThrow("cargo, ship " + wrong, Check.INDEX, () -> x.cargo(0, wrong, 0));
            Check.dueThrow("where, line " + wrong, Check.INDEX, () -> x.where(wrong, 0, 0));
            Check.dueThrow("cargo, line " + wrong, Check.INDEX, () -> x.cargo(wrong, 0, 0));
            Check.dueThrow("failures, line " + wrong, Check.INDEX, () -> x.failures(wrong));
        }
    }
}
