/** Promises 1 to 4: a new object, addShip, setRate, setRules. */
final class WorldTest {
    public static void main(String[] args) {
        newObject();
        firstRatesAndRules();
        shipsAreNumbered();
        shipEdges();
        shipRefusals();
        ninthShip();
        rateAnswersTheOneBefore();
        rateEdges();
        rateRefusals();
        rateCountsForAllLinesAndTurns();
        rulesCountForAllLinesAndTurns();
        rulesEdges();
        rulesRefusals();
        Check.end();
    }

    private static void newObject() {
        MooringTree x = new MooringTree();
        Check.due("best() of none", -1, x.best());
        Check.due("seen(0)", -1, x.seen(0));
        Check.due("ahead(0)", 0, x.ahead(0));
        Check.due("mark(0)", 50, x.mark(0));
        Check.due("failures(0)", 0, x.failures(0));
        Check.due("differences(0, 0)", 0, x.differences(0, 0));
        for (int turn = 0; turn < 30; turn++) {
            Check.due("orderOf(0, " + turn + ")", 0, x.orderOf(0, turn));
        }
        Check.due("look(0, 29)", 0, x.look(0, 29));
        Check.dueThrow("no ship 0", Check.INDEX, () -> x.where(0, 0, 0));
        Check.dueThrow("no fork 1", Check.INDEX, () -> x.orderOf(1, 0));
        Check.due("the first ship", 0, x.addShip(0, 0, 1));
        Check.due("the first fork", 1, x.fork(0, 0));
    }

    private static void firstRatesAndRules() {
        MooringTree x = new MooringTree();
        x.addShip(0, 0, 100);
        x.order(0, 4, MooringTree.BERTH, 0, 2);
        Check.due("four turns of fee 1", -4, x.look(0, 3));
        Check.due("rate 4 at price 3", 8, x.look(0, 4));
        for (int berth = 0; berth < 3; berth++) {
            Check.due("first rate of " + berth, 4, x.setRate(berth, 9));
        }
    }

    private static void shipsAreNumbered() {
        MooringTree x = new MooringTree();
        for (int ship = 0; ship < 8; ship++) {
            Check.due("ship " + ship, ship, x.addShip(ship, ship % 3, 10 + ship));
        }
        for (int ship = 0; ship < 8; ship++) {
            Check.due("cargo of " + ship, 10 + ship, x.cargo(0, ship, 29));
            Check.due("it waits from its turn on", -1, x.where(0, ship, ship));
        }
    }

    private static void shipEdges() {
        MooringTree x = new MooringTree();
        Check.due("least of all", 0, x.addShip(0, 0, 1));
        Check.due("most of all", 1, x.addShip(29, 2, 100));
        Check.due("it comes in the turn 0", -1, x.where(0, 0, 0));
        Check.due("not yet in 28", -2, x.where(0, 1, 28));
        Check.due("it comes in the turn 29", -1, x.where(0, 1, 29));
        Check.due("least cargo", 1, x.cargo(0, 0, 29));
        Check.due("most cargo", 100, x.cargo(0, 1, 0));
    }

    private static void shipRefusals() {
        MooringTree x = new MooringTree();
        int[][] refused = {
            {-1, 0, 1}, {30, 0, 1}, {Integer.MIN_VALUE, 0, 1}, {Integer.MAX_VALUE, 0, 1},
            {0, -1, 1}, {0, 3, 1}, {0, Integer.MIN_VALUE, 1}, {0, Integer.MAX_VALUE, 1},
            {0, 0, 0}, {0, 0, -1}, {0, 0, 101}, {0, 0, Integer.MIN_VALUE}, {0, 0, Integer.MAX_VALUE},
        };
        for (int[] a : refused) {
            Check.dueThrow("addShip of " + a[0] + ", " + a[1] + ", " + a[2], Check.ARGUMENT,
                    () -> x.addShip(a[0], a[1], a[2]));
        }
        Check.due("none was added", 0, x.addShip(0, 0, 1));
    }

    private static void ninthShip() {
        MooringTree x = new MooringTree();
        for (int ship = 0; ship < 8; ship++) {
            x.addShip(0, 0, 1);
        }
        Check.dueThrow("a ninth ship", Check.STATE, () -> x.addShip(0, 0, 1));
        Check.dueThrow("a wrong ninth one: comes", Check.ARGUMENT, () -> x.addShip(30, 0, 1));
        Check.dueThrow("a wrong ninth one: draught", Check.ARGUMENT, () -> x.addShip(0, 3, 1));
        Check.dueThrow("a wrong ninth one: cargo", Check.ARGUMENT, () -> x.addShip(0, 0, 0));
        Check.dueThrow("no ship 8", Check.INDEX, () -> x.where(0, 8, 0));
        Check.due("eight ships wait", -8, x.look(0, 0));
    }

    private static void rateAnswersTheOneBefore() {
        MooringTree x = new MooringTree();
        Check.due("the first one", 4, x.setRate(1, 7));
        Check.due("the one before", 7, x.setRate(1, 0));
        Check.due("the one before, again", 0, x.setRate(1, 0));
        Check.due("of another berth", 4, x.setRate(0, 20));
        Check.due("of the third berth", 4, x.setRate(2, 1));
        Check.due("greatest", 20, x.setRate(0, 4));
    }

    private static void rateEdges() {
        MooringTree x = new MooringTree();
        x.addShip(0, 0, 100);
        x.order(0, 0, MooringTree.BERTH, 0, 2);
        x.setRate(2, 0);
        Check.due("rate 0 unloads nothing", 100, x.cargo(0, 0, 29));
        Check.due("rate 0 earns nothing", 0, x.look(0, 29));
        x.setRate(2, 20);
        Check.due("rate 20", 80, x.cargo(0, 0, 0));
        Check.due("rate 20 at the end", 0, x.cargo(0, 0, 4));
    }

    private static void rateRefusals() {
        MooringTree x = new MooringTree();
        for (int berth : new int[] {-1, 3, Integer.MIN_VALUE, Integer.MAX_VALUE}) {
            Check.dueThrow("no berth " + berth, Check.INDEX, () -> x.setRate(berth, 4));
            Check.dueThrow("no berth goes first, " + berth, Check.INDEX, () -> x.setRate(berth, 21));
        }
        for (int rate : new int[] {-1, 21, Integer.MIN_VALUE, Integer.MAX_VALUE}) {
            Check.dueThrow("no rate " + rate, Check.ARGUMENT, () -> x.setRate(0, rate));
        }
        Check.due("the rate stays", 4, x.setRate(0, 4));
    }

    private static void rateCountsForAllLinesAndTurns() {
        MooringTree x = new MooringTree();
        x.addShip(0, 0, 50);
        x.order(0, 0, MooringTree.BERTH, 0, 1);
        x.fork(0, 10);
        Check.due("before", 42, x.cargo(1, 0, 1));
        x.setRate(1, 5);
        Check.due("the teacher's line", 40, x.cargo(0, 0, 1));
        Check.due("the fork", 40, x.cargo(1, 0, 1));
        x.setRate(0, 20);
        Check.due("another berth does not count", 40, x.cargo(1, 0, 1));
    }

    private static void rulesCountForAllLinesAndTurns() {
        MooringTree x = new MooringTree();
        x.addShip(0, 0, 10);
        x.order(0, 4, MooringTree.BERTH, 0, 0);
        x.fork(0, 10);
        Check.due("before", 26, x.look(0, 29));
        x.setRules(7, 2);
        Check.due("the teacher's line", 62, x.look(0, 29));
        Check.due("the fork", 62, x.look(1, 29));
        Check.due("an early turn", -2, x.look(0, 0));
    }

    private static void rulesEdges() {
        MooringTree x = new MooringTree();
        x.addShip(0, 0, 100);
        x.addShip(0, 0, 100);
        x.order(0, 0, MooringTree.BERTH, 0, 0);
        x.setRules(0, 0);
        Check.due("no price, no fee", 0, x.look(0, 29));
        x.setRules(100, 0);
        Check.due("price 100", 10000, x.look(0, 29));
        x.setRules(0, 100);
        Check.due("fee 100", -3000, x.look(0, 29));
        x.setRules(100, 100);
        Check.due("both 100", 7000, x.look(0, 29));
    }

    private static void rulesRefusals() {
        MooringTree x = new MooringTree();
        x.addShip(0, 0, 4);
        x.addShip(0, 0, 4);
        x.order(0, 0, MooringTree.BERTH, 0, 0);
        for (int wrong : new int[] {-1, 101, Integer.MIN_VALUE, Integer.MAX_VALUE}) {
            Check.dueThrow("price " + wrong, Check.ARGUMENT, () -> x.setRules(wrong, 50));
            Check.dueThrow("fee " + wrong, Check.ARGUMENT, () -> x.setRules(50, wrong));
            Check.dueThrow("both " + wrong, Check.ARGUMENT, () -> x.setRules(wrong, wrong));
        }
        Check.due("the rules stay", 11, x.look(0, 0));
    }
}
