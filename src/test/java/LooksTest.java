/** Promises 13 to 17: look, seen, ahead, mark, best. */
final class LooksTest {
    private static final int[] NO_TURNS = {-1, 30, Integer.MIN_VALUE, Integer.MAX_VALUE};
    private static final int[] NO_LINES = {-1, 2, 9, Integer.MIN_VALUE, Integer.MAX_VALUE};
    private static final int BERTH = MooringTree.BERTH;
    private static final int LEAVE = MooringTree.LEAVE;

    public static void main(String[] args) {
        earningTurnByTurn();
        earningOfSeveralShips();
        seenGoesUpOnly();
        forkIsSeenAsFarAsItsLine();
        lookRefusals();
        aheadKeepsWhatLookedAhead();
        aheadIsOfOwnOrders();
        aheadRefusals();
        markAgainstTheTeacher();
        markEdges();
        markOfAnOrderAhead();
        markMovesWithTheWorld();
        markRefusals();
        bestOfSeveral();
        bestOfMarksOfNought();
        Check.end();
    }

    private static void earningTurnByTurn() {
        MooringTree x = new MooringTree();
        x.addShip(1, 0, 10);
        x.order(0, 3, BERTH, 0, 0);
        x.order(0, 7, LEAVE, 0, 0);
        int[] earnings = {0, -1, -2, 10, 22, 28, 28, 28, 28};
        for (int turn = 0; turn < earnings.length; turn++) {
            Check.due("look(0, " + turn + ")", earnings[turn], x.look(0, turn));
        }
        Check.due("the greatest turn", 28, x.look(0, 29));
    }

    private static void earningOfSeveralShips() {
        MooringTree x = new MooringTree();
        for (int ship = 0; ship < 4; ship++) {
            x.addShip(0, 0, 100);
        }
        x.setRate(1, 7);
        x.setRate(2, 20);
        for (int berth = 0; berth < 3; berth++) {
            x.order(0, berth, BERTH, berth, berth);
        }
        Check.due("one of four", 4 * 3 - 3, x.look(0, 0));
        Check.due("two of four", 9 + 11 * 3 - 2, x.look(0, 1));
        Check.due("three of four", 40 + 31 * 3 - 1, x.look(0, 2));
        Check.due("all three unloaded", 900 - 3 - 2 - 28, x.look(0, 29));
    }

    private static void seenGoesUpOnly() {
        MooringTree x = new MooringTree();
        x.fork(0, 0);
        Check.due("not seen", -1, x.seen(1));
        x.look(1, 0);
        Check.due("the least turn", 0, x.seen(1));
        x.look(1, 12);
        Check.due("later", 12, x.seen(1));
        x.look(1, 11);
        Check.due("an earlier look", 12, x.seen(1));
        x.look(1, 29);
        Check.due("the greatest turn", 29, x.seen(1));
        Check.due("the teacher's line is not seen by it", -1, x.seen(0));
        x.look(0, 3);
        Check.due("the teacher's line", 3, x.seen(0));
    }

    private static void forkIsSeenAsFarAsItsLine() {
        MooringTree x = new MooringTree();
        x.fork(0, 20);
        x.look(0, 7);
        x.fork(0, 20);
        x.fork(1, 0);
        x.fork(2, 3);
        x.look(0, 9);
        Check.due("made before the look", -1, x.seen(1));
        Check.due("made behind the look", 7, x.seen(2));
        Check.due("made of the unseen one", -1, x.seen(3));
        Check.due("made of the seen one", 7, x.seen(4));
        x.look(4, 15);
        Check.due("a look at it", 15, x.seen(4));
        Check.due("is none at its line", 7, x.seen(2));
    }

    private static void lookRefusals() {
        MooringTree x = new MooringTree();
        x.fork(0, 0);
        x.look(0, 4);
        for (int turn : NO_TURNS) {
            Check.dueThrow("look in " + turn, Check.INDEX, () -> x.look(0, turn));
        }
        for (int line : NO_LINES) {
            Check.dueThrow("look at " + line, Check.INDEX, () -> x.look(line, 29));
            Check.dueThrow("seen of " + line, Check.INDEX, () -> x.seen(line));
        }
        Check.due("seen as before", 4, x.seen(0));
        Check.due("not seen, as before", -1, x.seen(1));
    }

    private static void aheadKeepsWhatLookedAhead() {
        MooringTree x = new MooringTree();
        x.addShip(0, 0, 10);
        x.fork(0, 0);
        x.order(1, 3, BERTH, 0, 0);
        x.look(1, 29);
        Check.due("given before the look", 0, x.ahead(1));
        x.order(1, 28, BERTH, 0, 0);
        x.order(1, 0, 0, 0, 0);
        x.order(1, 29, BERTH, 0, 0);
        Check.due("28 and 0, not 29", 1 | 1 << 28, x.ahead(1));
        x.order(1, 28, LEAVE, 0, 0);
        Check.due("in place of it", 1 | 1 << 28, x.ahead(1));
        x.takeAway(1, 0);
        Check.due("taken away", 1 << 28, x.ahead(1));
        x.order(1, 3, LEAVE, 0, 0);
        Check.due("in place of one that did not", 1 << 3 | 1 << 28, x.ahead(1));
        x.takeAway(1, 3);
        x.takeAway(1, 28);
        Check.due("none left", 0, x.ahead(1));
    }

    private static void aheadIsOfOwnOrders() {
        MooringTree x = new MooringTree();
        x.addShip(0, 0, 10);
        x.look(0, 29);
        x.order(0, 3, BERTH, 0, 0);
        Check.due("none of the line 0", 0, x.ahead(0));
        x.fork(0, 0);
        x.order(1, 4, BERTH, 0, 0);
        x.fork(1, 0);
        Check.due("its own", 1 << 4, x.ahead(1));
        Check.due("not that of its line", 0, x.ahead(2));
        Check.due("seen as far as its line", true, x.order(2, 28, BERTH, 0, 0));
        Check.due("its own one", 1 << 28, x.ahead(2));
    }

    private static void aheadRefusals() {
        MooringTree x = new MooringTree();
        x.fork(0, 0);
        for (int line : NO_LINES) {
            Check.dueThrow("ahead of " + line, Check.INDEX, () -> x.ahead(line));
        }
    }

    private static void markAgainstTheTeacher() {
        MooringTree x = new MooringTree();
        x.addShip(0, 0, 3);
        x.order(0, 10, BERTH, 0, 0);
        x.fork(0, 0);
        x.fork(0, 0);
        Check.due("as the teacher", 50, x.mark(1));
        x.order(1, 5, BERTH, 0, 0);
        Check.due("five turns sooner", 55, x.mark(1));
        x.order(2, 10, 0, 0, 0);
        x.order(2, 12, BERTH, 0, 0);
        Check.due("two turns later", 48, x.mark(2));
        Check.due("the line 0", 50, x.mark(0));
        x.order(0, 10, BERTH, 0, 1);
        x.order(0, 7, BERTH, 0, 1);
        Check.due("the teacher does better", 52, x.mark(1));
        Check.due("and the other fork too", 50, x.mark(2));
    }

    /** The mark of a fork that unloads a cargo of the price 1, at no fee, against a teacher who does not. */
    private static int markOfEarning(int cargo) {
        MooringTree x = new MooringTree();
        x.addShip(0, 0, cargo);
        x.setRules(1, 0);
        x.fork(0, 0);
        x.order(1, 0, BERTH, 0, 0);
        return x.mark(1);
    }

    /** The mark of a fork that earns nothing, against a teacher who unloads a cargo of the price 1. */
    private static int markAgainstEarning(int cargo) {
        MooringTree x = new MooringTree();
        x.addShip(0, 0, cargo);
        x.setRules(1, 0);
        x.order(0, 0, BERTH, 0, 0);
        x.fork(0, 0);
        x.order(1, 0, 0, 0, 0);
        return x.mark(1);
    }

    private static void markEdges() {
        Check.due("49 more", 99, markOfEarning(49));
        Check.due("50 more", 100, markOfEarning(50));
        Check.due("51 more", 100, markOfEarning(51));
        Check.due("100 more", 100, markOfEarning(100));
        Check.due("49 less", 1, markAgainstEarning(49));
        Check.due("50 less", 0, markAgainstEarning(50));
        Check.due("51 less", 0, markAgainstEarning(51));
    }

    private static void markOfAnOrderAhead() {
        MooringTree x = new MooringTree();
        x.addShip(0, 0, 10);
        x.fork(0, 0);
        x.look(1, 1);
        x.order(1, 0, BERTH, 0, 0);
        Check.due("an order ahead", 0, x.mark(1));
        x.fork(1, 0);
        Check.due("that is none of the fork's fork", 100, x.mark(2));
        x.takeAway(1, 0);
        Check.due("taken away", 50, x.mark(1));
        x.look(0, 29);
        x.order(0, 0, BERTH, 0, 0);
        Check.due("the line 0 always has 50", 50, x.mark(0));
    }

    private static void markMovesWithTheWorld() {
        MooringTree x = new MooringTree();
        x.addShip(0, 0, 8);
        x.order(0, 2, BERTH, 0, 0);
        x.fork(0, 0);
        x.order(1, 1, BERTH, 0, 0);
        Check.due("fee 1", 51, x.mark(1));
        x.setRules(3, 20);
        Check.due("fee 20", 70, x.mark(1));
        x.setRules(3, 0);
        x.setRate(0, 0);
        x.order(1, 1, BERTH, 0, 1);
        Check.due("a berth that unloads", 74, x.mark(1));
        Check.due("a mark is no look", -1, x.seen(1));
    }

    private static void markRefusals() {
        MooringTree x = new MooringTree();
        x.fork(0, 0);
        for (int line : NO_LINES) {
            Check.dueThrow("mark of " + line, Check.INDEX, () -> x.mark(line));
        }
    }

    private static void bestOfSeveral() {
        MooringTree x = new MooringTree();
        x.addShip(0, 0, 1);
        x.order(0, 20, BERTH, 0, 0);
        Check.due("no fork", -1, x.best());
        for (int fork = 1; fork <= 8; fork++) {
            x.fork(0, 0);
        }
        Check.due("all alike", 1, x.best());
        x.order(8, 19, BERTH, 0, 0);
        Check.due("the last one", 8, x.best());
        x.order(3, 19, BERTH, 0, 0);
        Check.due("the lowest of two", 3, x.best());
        x.order(5, 18, BERTH, 0, 0);
        Check.due("a better one", 5, x.best());
        x.look(5, 29);
        x.order(5, 17, 0, 0, 0);
        Check.due("one that looked ahead is none", 3, x.best());
    }

    private static void bestOfMarksOfNought() {
        MooringTree x = new MooringTree();
        x.addShip(0, 0, 1);
        x.look(0, 29);
        x.fork(0, 0);
        x.fork(0, 0);
        x.order(1, 0, 0, 0, 0);
        x.order(2, 0, 0, 0, 0);
        Check.due("both have 0", 1, x.best());
        x.takeAway(2, 0);
        Check.due("50 is more than 0", 2, x.best());
        x.order(0, 0, BERTH, 0, 0);
        x.order(2, 0, 0, 0, 0);
        Check.due("below the teacher, all have 0", 1, x.best());
    }
}
