/** Promises 5 to 9: fork, order, takeAway, orderOf, differences. */
final class LinesTest {
    private static final int[] NO_TURNS = {-1, 30, Integer.MIN_VALUE, Integer.MAX_VALUE};
    private static final int BERTH = MooringTree.BERTH;
    private static final int LEAVE = MooringTree.LEAVE;

    public static void main(String[] args) {
        forksAreNumbered();
        forkEdgesAndRefusals();
        ninthFork();
        forkFollowsTheLineItWasMadeOf();
        forkOfAForkAtAnEarlierTurn();
        ordersAsTold();
        orderInPlaceOfTheOwnOne();
        orderOfNothingIsAnOwnOne();
        orderEdges();
        orderRefusals();
        orderRefusalsInTheirOrder();
        orderEarlierThanTheFork();
        orderLooksAhead();
        takeAway();
        takeAwayRefusals();
        orderOfRefusals();
        differences();
        differencesRefusals();
        Check.end();
    }

    private static MooringTree withShips(int ships) {
        MooringTree x = new MooringTree();
        for (int ship = 0; ship < ships; ship++) {
            x.addShip(0, 0, 10);
        }
        return x;
    }

    private static void forksAreNumbered() {
        MooringTree x = new MooringTree();
        for (int fork = 1; fork <= 8; fork++) {
            int number = fork;
            Check.dueThrow("no line " + fork + " yet", Check.INDEX, () -> x.seen(number));
            Check.due("fork " + fork, fork, x.fork(fork / 2, fork));
        }
        Check.due("the eighth fork is there", -1, x.seen(8));
    }

    private static void forkEdgesAndRefusals() {
        MooringTree x = new MooringTree();
        for (int turn : NO_TURNS) {
            Check.dueThrow("fork at " + turn, Check.INDEX, () -> x.fork(0, turn));
        }
        for (int line : new int[] {-1, 1, 8, 9, Integer.MIN_VALUE, Integer.MAX_VALUE}) {
            Check.dueThrow("fork of " + line, Check.INDEX, () -> x.fork(line, 0));
        }
        Check.due("none was made: best()", -1, x.best());
        Check.due("the least turn", 1, x.fork(0, 0));
        Check.due("the greatest turn", 2, x.fork(0, 29));
    }

    private static void ninthFork() {
        MooringTree x = new MooringTree();
        for (int fork = 1; fork <= 8; fork++) {
            x.fork(0, 0);
        }
        Check.dueThrow("a ninth fork", Check.STATE, () -> x.fork(0, 0));
        Check.dueThrow("a ninth fork of the eighth", Check.STATE, () -> x.fork(8, 29));
        Check.dueThrow("a ninth one of no line", Check.INDEX, () -> x.fork(9, 0));
        Check.dueThrow("a ninth one at no turn", Check.INDEX, () -> x.fork(0, 30));
        Check.dueThrow("there is no line 9", Check.INDEX, () -> x.seen(9));
    }

    private static void forkFollowsTheLineItWasMadeOf() {
        MooringTree x = withShips(3);
        x.order(0, 5, BERTH, 0, 1);
        x.fork(0, 5);
        Check.due("the teacher's order", 101, x.orderOf(1, 5));
        x.order(1, 5, BERTH, 2, 2);
        x.fork(1, 7);
        x.order(0, 5, BERTH, 1, 0);
        x.order(0, 6, LEAVE, 1, 0);
        x.order(0, 2, BERTH, 1, 0);
        Check.due("the own one stays", 122, x.orderOf(1, 5));
        Check.due("a later order of the teacher counts", 210, x.orderOf(1, 6));
        Check.due("one before the fork counts too", 110, x.orderOf(1, 2));
        Check.due("of the fork between", 122, x.orderOf(2, 5));
        Check.due("through the fork between", 210, x.orderOf(2, 6));
        x.order(1, 8, LEAVE, 2, 0);
        Check.due("a later order of the fork between", 220, x.orderOf(2, 8));
        Check.due("the teacher's line has none of it", 0, x.orderOf(0, 8));
        x.takeAway(1, 5);
        Check.due("the teacher's again", 110, x.orderOf(2, 5));
        x.takeAway(0, 5);
        Check.due("nothing again", 0, x.orderOf(2, 5));
    }

    private static void forkOfAForkAtAnEarlierTurn() {
        MooringTree x = withShips(1);
        x.fork(0, 20);
        x.fork(1, 4);
        Check.due("own orders from 4 on", false, x.order(2, 4, BERTH, 0, 2));
        Check.due("its own one", 102, x.orderOf(2, 4));
        Check.due("not the other fork's", 0, x.orderOf(1, 4));
        Check.dueThrow("the other fork is at 20", Check.STATE, () -> x.order(1, 19, BERTH, 0, 2));
    }

    private static void ordersAsTold() {
        MooringTree x = withShips(8);
        for (int ship = 0; ship < 8; ship++) {
            for (int berth = 0; berth < 3; berth++) {
                x.order(0, ship, BERTH, ship, berth);
                Check.due("BERTH", 100 + 10 * ship + berth, x.orderOf(0, ship));
                x.order(0, ship, LEAVE, ship, berth);
                Check.due("LEAVE has the berth 0", 200 + 10 * ship, x.orderOf(0, ship));
                x.order(0, ship, 0, ship, berth);
                Check.due("nothing", 0, x.orderOf(0, ship));
            }
        }
    }

    private static void orderInPlaceOfTheOwnOne() {
        MooringTree x = withShips(2);
        x.order(0, 3, BERTH, 0, 0);
        x.order(0, 3, LEAVE, 1, 2);
        Check.due("the new one", 210, x.orderOf(0, 3));
        Check.due("it had one", true, x.takeAway(0, 3));
        Check.due("nothing of the old one", 0, x.orderOf(0, 3));
        Check.due("it has none", false, x.takeAway(0, 3));
    }

    private static void orderOfNothingIsAnOwnOne() {
        MooringTree x = withShips(1);
        x.order(0, 3, BERTH, 0, 1);
        x.fork(0, 0);
        x.order(1, 3, 0, 0, 0);
        Check.due("nothing in place of the teacher's", 0, x.orderOf(1, 3));
        Check.due("it had one", true, x.takeAway(1, 3));
        Check.due("the teacher's again", 101, x.orderOf(1, 3));
    }

    private static void orderEdges() {
        MooringTree x = withShips(8);
        for (int fork = 1; fork <= 8; fork++) {
            x.fork(0, 29);
        }
        Check.due("least of all", false, x.order(0, 0, 0, 0, 0));
        Check.due("most of all", false, x.order(8, 29, LEAVE, 7, 2));
        Check.due("told", 270, x.orderOf(8, 29));
    }

    private static void orderRefusals() {
        MooringTree x = withShips(2);
        x.fork(0, 0);
        for (int kind = 0; kind <= 2; kind++) {
            int k = kind;
            for (int turn : NO_TURNS) {
                Check.dueThrow("order for " + turn, Check.INDEX, () -> x.order(0, turn, k, 0, 0));
            }
            for (int line : new int[] {-1, 2, 9, Integer.MIN_VALUE, Integer.MAX_VALUE}) {
                Check.dueThrow("order of " + line, Check.INDEX, () -> x.order(line, 0, k, 0, 0));
            }
            for (int ship : new int[] {-1, 2, 8, Integer.MIN_VALUE, Integer.MAX_VALUE}) {
                Check.dueThrow("order to ship " + ship, Check.INDEX, () -> x.order(0, 0, k, ship, 0));
            }
            for (int berth : new int[] {-1, 3, Integer.MIN_VALUE, Integer.MAX_VALUE}) {
                Check.dueThrow("order to berth " + berth, Check.INDEX, () -> x.order(0, 0, k, 0, berth));
            }
        }
        for (int kind : new int[] {-1, 3, Integer.MIN_VALUE, Integer.MAX_VALUE}) {
            Check.dueThrow("order of kind " + kind, Check.ARGUMENT, () -> x.order(0, 0, kind, 0, 0));
        }
        Check.due("none was given", false, x.takeAway(0, 0));
    }

    private static void orderRefusalsInTheirOrder() {
        MooringTree x = withShips(1);
        x.fork(0, 10);
        Check.dueThrow("line, then kind", Check.INDEX, () -> x.order(2, 0, 3, 0, 0));
        Check.dueThrow("turn, then kind", Check.INDEX, () -> x.order(1, -1, 3, 0, 0));
        Check.dueThrow("ship, then kind", Check.INDEX, () -> x.order(1, 9, 3, 1, 0));
        Check.dueThrow("berth, then kind", Check.INDEX, () -> x.order(1, 9, 3, 0, 3));
        Check.dueThrow("ship, then fork's turn", Check.INDEX, () -> x.order(1, 9, 1, 1, 0));
        Check.dueThrow("berth, then fork's turn", Check.INDEX, () -> x.order(1, 9, 1, 0, -1));
        Check.dueThrow("kind, then fork's turn", Check.ARGUMENT, () -> x.order(1, 9, -1, 0, 0));
        Check.dueThrow("no turn is no early turn", Check.INDEX, () -> x.order(1, -1, 1, 0, 0));
    }

    private static void orderEarlierThanTheFork() {
        MooringTree x = withShips(1);
        x.order(0, 9, BERTH, 0, 0);
        x.fork(0, 10);
        for (int kind = 0; kind <= 2; kind++) {
            int k = kind;
            Check.dueThrow("the turn before", Check.STATE, () -> x.order(1, 9, k, 0, 1));
            Check.dueThrow("the turn 0", Check.STATE, () -> x.order(1, 0, k, 0, 1));
        }
        Check.due("nothing changed in 9", 100, x.orderOf(1, 9));
        Check.due("no own one in 9", false, x.takeAway(1, 9));
        Check.due("the fork's own turn", false, x.order(1, 10, BERTH, 0, 1));
        Check.due("given", 101, x.orderOf(1, 10));
        Check.due("the teacher's line takes all turns", false, x.order(0, 0, BERTH, 0, 1));
    }

    private static void orderLooksAhead() {
        MooringTree x = withShips(1);
        x.fork(0, 0);
        Check.due("not seen", false, x.order(1, 0, BERTH, 0, 0));
        x.look(1, 5);
        Check.due("seen in a later turn", true, x.order(1, 4, BERTH, 0, 0));
        Check.due("nothing looks ahead too", true, x.order(1, 0, 0, 0, 0));
        Check.due("seen in that turn", false, x.order(1, 5, BERTH, 0, 0));
        Check.due("seen in an earlier turn", false, x.order(1, 6, BERTH, 0, 0));
        x.look(0, 29);
        Check.due("never for the line 0", false, x.order(0, 0, BERTH, 0, 0));
        Check.due("the teacher's look is none of the fork", false, x.order(1, 28, BERTH, 0, 0));
    }

    private static void takeAway() {
        MooringTree x = withShips(1);
        x.order(0, 3, BERTH, 0, 1);
        x.fork(0, 2);
        Check.due("the fork has no own one", false, x.takeAway(1, 3));
        Check.due("earlier than the fork", false, x.takeAway(1, 0));
        Check.due("the teacher's stays", 101, x.orderOf(0, 3));
        x.order(1, 3, LEAVE, 0, 0);
        x.order(1, 29, LEAVE, 0, 0);
        Check.due("the own one", true, x.takeAway(1, 3));
        Check.due("the teacher's", 101, x.orderOf(1, 3));
        Check.due("the greatest turn", true, x.takeAway(1, 29));
        Check.due("no more", false, x.takeAway(1, 29));
        Check.due("the teacher's own one", true, x.takeAway(0, 3));
        Check.due("nothing", 0, x.orderOf(0, 3));
    }

    private static void takeAwayRefusals() {
        MooringTree x = withShips(1);
        x.order(0, 0, BERTH, 0, 0);
        x.order(0, 29, BERTH, 0, 0);
        for (int turn : NO_TURNS) {
            Check.dueThrow("takeAway for " + turn, Check.INDEX, () -> x.takeAway(0, turn));
        }
        for (int line : new int[] {-1, 1, 9, Integer.MIN_VALUE, Integer.MAX_VALUE}) {
            Check.dueThrow("takeAway of " + line, Check.INDEX, () -> x.takeAway(line, 0));
        }
        Check.due("the first stays", 100, x.orderOf(0, 0));
        Check.due("the last stays", 100, x.orderOf(0, 29));
    }

    private static void orderOfRefusals() {
        MooringTree x = withShips(1);
        x.fork(0, 0);
        for (int turn : NO_TURNS) {
            Check.dueThrow("orderOf for " + turn, Check.INDEX, () -> x.orderOf(1, turn));
        }
        for (int line : new int[] {-1, 2, 9, Integer.MIN_VALUE, Integer.MAX_VALUE}) {
            Check.dueThrow("orderOf of " + line, Check.INDEX, () -> x.orderOf(line, 0));
        }
    }

    private static void differences() {
        MooringTree x = withShips(2);
        x.order(0, 1, BERTH, 0, 1);
        x.fork(0, 0);
        x.fork(1, 0);
        Check.due("none yet", 0, x.differences(0, 2));
        x.order(1, 0, LEAVE, 0, 2);
        x.order(1, 29, BERTH, 1, 0);
        Check.due("the first and the last turn", 1 | 1 << 29, x.differences(0, 1));
        Check.due("the other way round", 1 | 1 << 29, x.differences(1, 0));
        Check.due("a line and itself", 0, x.differences(1, 1));
        x.order(1, 1, BERTH, 0, 1);
        Check.due("an own one that is alike", 1 | 1 << 29, x.differences(0, 1));
        x.order(2, 0, LEAVE, 0, 1);
        Check.due("LEAVE with another berth is alike", 0, x.differences(1, 2));
        x.order(2, 2, 0, 1, 2);
        Check.due("nothing is alike", 0, x.differences(1, 2));
        x.order(2, 1, BERTH, 0, 2);
        Check.due("another berth", 1 << 1, x.differences(1, 2));
        x.order(2, 1, BERTH, 1, 1);
        Check.due("another ship", 1 << 1, x.differences(1, 2));
        x.order(2, 1, 0, 0, 1);
        Check.due("nothing in place of BERTH", 1 << 1, x.differences(2, 1));
    }

    private static void differencesRefusals() {
        MooringTree x = withShips(1);
        x.fork(0, 0);
        for (int line : new int[] {-1, 2, 9, Integer.MIN_VALUE, Integer.MAX_VALUE}) {
            Check.dueThrow("one is " + line, Check.INDEX, () -> x.differences(line, 0));
            Check.dueThrow("other is " + line, Check.INDEX, () -> x.differences(1, line));
            Check.dueThrow("both are " + line, Check.INDEX, () -> x.differences(line, line));
        }
    }
}
