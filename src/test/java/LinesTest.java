/** What the terms say of lines and orders, and promises 5 to 9. */
final class LinesTest {
    private static final int[] LINES = Check.upTo(0, 8);
    private static final int[] FORKS = Check.upTo(1, 8);
    private static final int ALL_TURNS = (1 << 30) - 1;
    private static final int BERTH = MooringTree.BERTH;
    private static final int LEAVE = MooringTree.LEAVE;

    public static void main(String[] args) {
        terms();
        fork();
        order();
        takeAway();
        orderOf();
        differences();
        Check.end();
    }

    private static void terms() {
        Check.says("The line 0 is the teacher's; others are forks, numbered from 1, at most 8.",
                LinesTest::linesAreNumbered);
        Check.says("A fork is made of a line at a turn; it has orders of its own for that turn and later ones.",
                LinesTest::ownOrdersFromTheTurnOn);
        Check.says("The order of a line for a turn is its own one, if it has one,", LinesTest::ownOrderGoesFirst);
        Check.says("otherwise that of the line of which it was made;", LinesTest::orderOfTheLineBelow);
        Check.says("otherwise that of the line of which it was made", LinesTest::earlyTurnsFollowTheLineBelow);
        Check.says("the line 0 has no own ones at first, and nothing (0) for each turn without one.",
                LinesTest::teachersFirstOrders);
        Check.says("An order is nothing; or BERTH (1), to put a ship to a berth; or LEAVE (2), to let a ship leave.",
                LinesTest::nothingIsAnOrder);
    }

    private static void fork() {
        Check.says("Makes a fork of a line.", LinesTest::forkOfEachLine);
        Check.says("turn: 0 to 29", LinesTest::forkTurns);
        Check.says("Returns number of the fork.", LinesTest::numberOfTheFork);
        Check.says("Throws IndexOutOfBoundsException if there is no such line or turn", LinesTest::forkOfNoLineOrTurn);
        Check.says("Throws IllegalStateException if there are 8 forks", LinesTest::ninthFork);
    }

    private static void order() {
        Check.says("Gives an order of a line for a turn, in place of its own one that there may be.",
                LinesTest::inPlaceOfTheOwnOne);
        Check.says("turn: 0 to 29", LinesTest::orderTurns);
        Check.says("kind: 0 for nothing, BERTH or LEAVE", LinesTest::orderKinds);
        Check.says("ship: a ship, whatever the kind is", LinesTest::orderShips);
        Check.says("berth: 0 to 2, whatever the kind is", LinesTest::orderBerths);
        Check.says("Returns true if the order looks ahead", LinesTest::answerTellsOfALookAhead);
        Check.says("false for the line 0.", LinesTest::teacherNeverLooksAhead);
        Check.says("Throws IndexOutOfBoundsException if there is no such line, turn, ship or berth",
                LinesTest::orderOfNoSuch);
        Check.says("Throws IllegalArgumentException if kind is out of range", LinesTest::orderOfNoKind);
        Check.says("Throws IllegalStateException if the turn is earlier than that at which the line was forked",
                LinesTest::orderEarlierThanTheFork);
    }

    private static void takeAway() {
        Check.says("Takes the own order of a line for a turn away.", LinesTest::ownOrderIsTakenAway);
        Check.says("turn: 0 to 29", LinesTest::takeAwayTurns);
        Check.says("Returns true if it had one.", LinesTest::hadOne);
        Check.says("Returns true if it had one", LinesTest::hadNothing);
        Check.says("Returns true if it had one.", LinesTest::hadNoneEarlierThanTheFork);
        Check.says("Throws IndexOutOfBoundsException if there is no such line or turn",
                LinesTest::takeAwayOfNoLineOrTurn);
    }

    private static void orderOf() {
        Check.says("Returns the order of a line for a turn.", LinesTest::orderOfEachLine);
        Check.says("Returns 100 * kind + 10 * ship + berth, where the berth is 0 for LEAVE; 0 for nothing.",
                LinesTest::ordersAsTold);
        Check.says("turn: 0 to 29", LinesTest::orderOfTurns);
        Check.says("Throws IndexOutOfBoundsException if there is no such line or turn",
                LinesTest::orderOfNoLineOrTurn);
    }

    private static void differences() {
        Check.says("Returns in which turns the orders of two lines, as orderOf() tells them, are different.",
                LinesTest::differentAsTold);
        Check.says("Returns the turns, as a set: bit t for the turn t.", LinesTest::differencesBits);
        Check.says("one: a line", LinesTest::differencesOfEachTwoLines);
        Check.says("other: a line", LinesTest::differencesOfALineAndItself);
        Check.says("Throws IndexOutOfBoundsException if there is no such line", LinesTest::differencesOfNoLine);
    }

    private static MooringTree withShips(int ships) {
        MooringTree x = new MooringTree();
        for (int ship = 0; ship < ships; ship++) {
            x.addShip(0, 0, 10);
        }
        return x;
    }

    // ---- terms

    private static void linesAreNumbered() {
        MooringTree x = withShips(1);
        Check.due("the line 0 is there", false, x.order(0, 0, BERTH, 0, 0));
        for (int fork : FORKS) {
            Check.dueThrow("no line " + fork + " yet", Check.INDEX, () -> x.orderOf(fork, 0));
            Check.due("the fork", fork, x.fork(0, 0));
            Check.due("it is a line", 100, x.orderOf(fork, 0));
        }
        Check.dueThrow("a ninth fork", Check.STATE, () -> x.fork(0, 0));
        Check.dueThrow("no line 9", Check.INDEX, () -> x.orderOf(9, 0));
    }

    private static void ownOrdersFromTheTurnOn() {
        for (int forked : Check.TURNS) {
            MooringTree x = withShips(1);
            x.fork(0, forked);
            for (int turn : Check.TURNS) {
                String due = turn < forked ? Check.THROWS + "IllegalStateException" : "false";
                Check.due("forked at " + forked + ", an order for " + turn, due,
                        Check.answerOf(() -> x.order(1, turn, BERTH, 0, 2)));
                Check.due("its order then", turn < forked ? 0 : 102, x.orderOf(1, turn));
                Check.due("an own one", turn >= forked, x.takeAway(1, turn));
            }
        }
    }

    private static void ownOrderGoesFirst() {
        MooringTree x = withShips(8);
        for (int fork : FORKS) {
            x.fork(fork - 1, 0);
        }
        for (int line : LINES) {
            x.order(line, 7, BERTH, line % 8, line / 3);
        }
        for (int line : LINES) {
            Check.due("the own one of " + line, 100 + 10 * (line % 8) + line / 3, x.orderOf(line, 7));
        }
        x.order(3, 7, LEAVE, 0, 0);
        Check.due("a change of the line below does not count", 141, x.orderOf(4, 7));
        x.takeAway(3, 7);
        Check.due("nor one taken away below", 141, x.orderOf(4, 7));
    }

    private static void orderOfTheLineBelow() {
        MooringTree x = withShips(3);
        for (int fork : FORKS) {
            x.fork(fork - 1, 0);
        }
        x.order(0, 29, BERTH, 1, 2);
        Check.due("through eight forks", 112, x.orderOf(8, 29));
        x.order(4, 29, LEAVE, 2, 0);
        Check.due("from the fork between on", 220, x.orderOf(8, 29));
        Check.due("not below it", 112, x.orderOf(3, 29));
        x.order(0, 29, BERTH, 0, 0);
        Check.due("a later order of the teacher", 100, x.orderOf(3, 29));
        Check.due("hidden behind the fork between", 220, x.orderOf(5, 29));
        x.takeAway(4, 29);
        Check.due("the teacher's again", 100, x.orderOf(8, 29));
        x.takeAway(0, 29);
        Check.due("nothing again", 0, x.orderOf(8, 29));
        Check.due("none of them has an own one", false, x.takeAway(8, 29));
    }

    private static void earlyTurnsFollowTheLineBelow() {
        MooringTree x = withShips(2);
        x.fork(0, 20);
        x.fork(1, 4);
        x.order(0, 3, BERTH, 0, 1);
        Check.due("given behind the fork, for a turn before it", 101, x.orderOf(1, 3));
        Check.due("through a fork", 101, x.orderOf(2, 3));
        x.order(2, 4, BERTH, 1, 2);
        Check.due("a fork of a fork at an earlier turn has an own one", 112, x.orderOf(2, 4));
        Check.due("its line has not", 0, x.orderOf(1, 4));
        x.order(1, 20, LEAVE, 1, 0);
        Check.due("the order of its line", 210, x.orderOf(2, 20));
        x.takeAway(0, 3);
        Check.due("taken away behind the fork", 0, x.orderOf(1, 3));
    }

    private static void teachersFirstOrders() {
        MooringTree x = withShips(1);
        for (int turn : Check.TURNS) {
            Check.due("nothing for " + turn, 0, x.orderOf(0, turn));
            Check.due("no own one for " + turn, false, x.takeAway(0, turn));
            x.order(0, turn, BERTH, 0, 2);
            Check.due("the order for " + turn, 102, x.orderOf(0, turn));
            x.takeAway(0, turn);
            Check.due("nothing again for " + turn, 0, x.orderOf(0, turn));
        }
    }

    private static void nothingIsAnOrder() {
        MooringTree x = withShips(1);
        x.order(0, 3, BERTH, 0, 1);
        x.fork(0, 0);
        x.fork(1, 0);
        x.order(1, 3, 0, 0, 0);
        Check.due("nothing in place of the teacher's", 0, x.orderOf(1, 3));
        Check.due("in the fork of it too", 0, x.orderOf(2, 3));
        Check.due("and so it is played", -1, x.where(2, 0, 29));
        Check.due("it is an own one", true, x.takeAway(1, 3));
        Check.due("the teacher's again", 101, x.orderOf(2, 3));
    }

    // ---- promise 5

    private static void forkOfEachLine() {
        for (int line : Check.upTo(0, 7)) {
            MooringTree x = withShips(8);
            for (int fork : Check.upTo(1, 7)) {
                x.fork(0, 0);
            }
            for (int other : Check.upTo(0, 7)) {
                x.order(other, 9, BERTH, other, 0);
            }
            Check.due("the eighth fork, of " + line, 8, x.fork(line, 0));
            Check.due("the order of its line", 100 + 10 * line, x.orderOf(8, 9));
            Check.due("no own one", false, x.takeAway(8, 9));
        }
    }

    private static void forkTurns() {
        for (int turn : Check.TURNS) {
            Check.due("a fork at " + turn, 1, new MooringTree().fork(0, turn));
        }
        Check.dueThrows("a fork at", Check.INDEX, Check.NO_TURNS, turn -> new MooringTree().fork(0, turn));
    }

    private static void numberOfTheFork() {
        MooringTree x = new MooringTree();
        for (int fork : FORKS) {
            Check.dueThrow("a refused one has no number", Check.INDEX, () -> x.fork(fork, 0));
            Check.due("the fork", fork, x.fork(fork / 2, 30 - fork));
        }
    }

    private static void forkOfNoLineOrTurn() {
        MooringTree x = new MooringTree();
        x.fork(0, 5);
        Check.dueThrows("at the turn", Check.INDEX, Check.NO_TURNS, turn -> x.fork(0, turn));
        Check.dueThrows("at the turn, of a fork", Check.INDEX, Check.NO_TURNS, turn -> x.fork(1, turn));
        Check.dueThrows("of the line", Check.INDEX, Check.outside(0, 1), line -> x.fork(line, 0));
        Check.dueThrows("both", Check.INDEX, Check.NO_TURNS, wrong -> x.fork(wrong, wrong));
        Check.due("none was made", 2, x.fork(0, 0));
    }

    private static void ninthFork() {
        MooringTree x = new MooringTree();
        for (int fork : Check.upTo(1, 7)) {
            x.fork(0, 0);
        }
        Check.due("with 7 forks there is room", 8, x.fork(0, 0));
        for (int line : LINES) {
            Check.dueThrow("a ninth fork of " + line, Check.STATE, () -> x.fork(line, 29));
        }
        Check.dueThrows("a ninth one of the line", Check.INDEX, Check.outside(0, 8), line -> x.fork(line, 0));
        Check.dueThrows("a ninth one at the turn", Check.INDEX, Check.NO_TURNS, turn -> x.fork(0, turn));
        Check.dueThrow("no line 9", Check.INDEX, () -> x.seen(9));
    }

    // ---- promise 6

    private static void inPlaceOfTheOwnOne() {
        MooringTree x = withShips(2);
        x.fork(0, 0);
        for (int line : Check.upTo(0, 1)) {
            x.order(line, 3, BERTH, 0, 0);
            x.order(line, 3, LEAVE, 1, 2);
            Check.due("the new one", 210, x.orderOf(line, 3));
            x.order(line, 3, 0, 1, 2);
            Check.due("nothing in place of it", 0, x.orderOf(line, 3));
            x.order(line, 3, BERTH, 1, 2);
            Check.due("BERTH in place of nothing", 112, x.orderOf(line, 3));
            Check.due("the turn before", 0, x.orderOf(line, 2));
            Check.due("the turn behind", 0, x.orderOf(line, 4));
            Check.due("it had one", true, x.takeAway(line, 3));
            Check.due("one, not several", false, x.takeAway(line, 3));
            Check.due("nothing of the old ones", 0, x.orderOf(line, 3));
        }
    }

    private static void orderTurns() {
        MooringTree x = withShips(8);
        x.fork(0, 0);
        for (int turn : Check.TURNS) {
            x.order(0, turn, BERTH, turn % 8, turn % 3);
            x.order(1, turn, LEAVE, turn % 7, 0);
        }
        for (int turn : Check.TURNS) {
            Check.due("the teacher's", 100 + 10 * (turn % 8) + turn % 3, x.orderOf(0, turn));
            Check.due("the fork's", 200 + 10 * (turn % 7), x.orderOf(1, turn));
        }
        for (int kind : Check.KINDS) {
            Check.dueThrows("for the turn", Check.INDEX, Check.NO_TURNS, turn -> x.order(0, turn, kind, 0, 0));
            Check.dueThrows("of a fork, for", Check.INDEX, Check.NO_TURNS, turn -> x.order(1, turn, kind, 0, 0));
        }
    }

    private static void orderKinds() {
        MooringTree x = withShips(1);
        Check.due("0", false, x.order(0, 0, 0, 0, 0));
        Check.due("told", 0, x.orderOf(0, 0));
        Check.due("BERTH", false, x.order(0, 0, BERTH, 0, 0));
        Check.due("told", 100, x.orderOf(0, 0));
        Check.due("LEAVE", false, x.order(0, 0, LEAVE, 0, 0));
        Check.due("told", 200, x.orderOf(0, 0));
        Check.dueThrows("the kind", Check.ARGUMENT, Check.outside(0, 2), kind -> x.order(0, 0, kind, 0, 0));
    }

    private static void orderShips() {
        for (int ships : Check.upTo(0, 8)) {
            MooringTree x = withShips(ships);
            for (int kind : Check.KINDS) {
                if (ships > 0) {
                    Check.due("the least ship", false, x.order(0, 0, kind, 0, 0));
                    Check.due("the greatest ship", false, x.order(0, 0, kind, ships - 1, 0));
                }
                Check.dueThrows("kind " + kind + ", with " + ships + " ships, the ship", Check.INDEX,
                        Check.outside(0, ships - 1), ship -> x.order(0, 0, kind, ship, 0));
            }
        }
    }

    private static void orderBerths() {
        MooringTree x = withShips(1);
        for (int kind : Check.KINDS) {
            for (int berth : Check.BERTHS) {
                Check.due("the berth " + berth, false, x.order(0, 0, kind, 0, berth));
                Check.due("told", kind == BERTH ? 100 + berth : 100 * kind, x.orderOf(0, 0));
            }
            Check.dueThrows("kind " + kind + ", the berth", Check.INDEX, Check.NO_BERTHS,
                    berth -> x.order(0, 0, kind, 0, berth));
        }
    }

    private static void answerTellsOfALookAhead() {
        for (int kind : Check.KINDS) {
            MooringTree x = withShips(1);
            x.fork(0, 0);
            Check.due("not seen", false, x.order(1, 0, kind, 0, 0));
            x.look(1, 5);
            Check.due("seen in a later turn", true, x.order(1, 4, kind, 0, 0));
            Check.due("seen in that turn", false, x.order(1, 5, kind, 0, 0));
            Check.due("seen in an earlier turn", false, x.order(1, 6, kind, 0, 0));
            Check.due("the least turn", true, x.order(1, 0, kind, 0, 0));
            Check.due("the greatest turn", false, x.order(1, 29, kind, 0, 0));
        }
    }

    private static void teacherNeverLooksAhead() {
        MooringTree x = withShips(1);
        x.look(0, 29);
        for (int turn : Check.TURNS) {
            Check.due("for " + turn, false, x.order(0, turn, turn % 3, 0, 0));
        }
        Check.due("none", 0, x.ahead(0));
    }

    private static void orderOfNoSuch() {
        MooringTree x = withShips(2);
        x.fork(0, 0);
        for (int kind : Check.KINDS) {
            Check.dueThrows("line", Check.INDEX, Check.outside(0, 1), wrong -> x.order(wrong, 0, kind, 0, 0));
            Check.dueThrows("turn", Check.INDEX, Check.NO_TURNS, wrong -> x.order(1, wrong, kind, 0, 0));
            Check.dueThrows("ship", Check.INDEX, Check.outside(0, 1), wrong -> x.order(1, 0, kind, wrong, 0));
            Check.dueThrows("berth", Check.INDEX, Check.NO_BERTHS, wrong -> x.order(1, 0, kind, 0, wrong));
        }
        Check.due("none was given to the teacher", false, x.takeAway(0, 0));
        Check.due("none was given to the fork", false, x.takeAway(1, 0));
    }

    private static void orderOfNoKind() {
        MooringTree x = withShips(1);
        x.fork(0, 10);
        int[] kinds = {-1, 3, 100, 200, -256, 256, 257, Integer.MIN_VALUE, Integer.MAX_VALUE};
        Check.dueThrows("the teacher's, kind", Check.ARGUMENT, kinds, kind -> x.order(0, 29, kind, 0, 2));
        Check.dueThrows("the fork's, kind", Check.ARGUMENT, kinds, kind -> x.order(1, 10, kind, 0, 2));
        Check.dueThrows("too early, and kind", Check.ARGUMENT, kinds, kind -> x.order(1, 9, kind, 0, 2));
        Check.dueThrows("no line, and kind", Check.INDEX, kinds, kind -> x.order(2, 9, kind, 0, 2));
        Check.dueThrows("no turn, and kind", Check.INDEX, kinds, kind -> x.order(1, -1, kind, 0, 2));
        Check.dueThrows("no ship, and kind", Check.INDEX, kinds, kind -> x.order(1, 9, kind, 1, 2));
        Check.dueThrows("no berth, and kind", Check.INDEX, kinds, kind -> x.order(1, 9, kind, 0, 3));
        Check.due("none was given", false, x.takeAway(0, 29));
    }

    private static void orderEarlierThanTheFork() {
        MooringTree x = withShips(1);
        x.order(0, 9, BERTH, 0, 0);
        x.fork(0, 10);
        x.fork(1, 5);
        for (int kind : Check.KINDS) {
            Check.dueThrow("the turn before", Check.STATE, () -> x.order(1, 9, kind, 0, 1));
            Check.dueThrow("the turn 0", Check.STATE, () -> x.order(1, 0, kind, 0, 1));
            Check.dueThrow("of the fork's fork", Check.STATE, () -> x.order(2, 4, kind, 0, 1));
            Check.dueThrow("no turn at all goes first", Check.INDEX, () -> x.order(1, -1, kind, 0, 1));
            Check.dueThrow("no ship goes first", Check.INDEX, () -> x.order(1, 9, kind, 1, 1));
            Check.dueThrow("no berth goes first", Check.INDEX, () -> x.order(1, 9, kind, 0, -1));
        }
        Check.due("nothing changed in 9", 100, x.orderOf(1, 9));
        Check.due("no own one in 9", false, x.takeAway(1, 9));
        Check.due("the fork's own turn", false, x.order(1, 10, BERTH, 0, 1));
        Check.due("the fork's fork goes by its own turn", false, x.order(2, 5, BERTH, 0, 1));
        Check.due("the teacher's line takes the turn 0", false, x.order(0, 0, BERTH, 0, 1));
    }

    // ---- promise 7

    private static void ownOrderIsTakenAway() {
        MooringTree x = withShips(1);
        x.order(0, 3, BERTH, 0, 1);
        x.fork(0, 2);
        Check.due("the fork has no own one", false, x.takeAway(1, 3));
        Check.due("the teacher's stays", 101, x.orderOf(0, 3));
        x.order(1, 3, LEAVE, 0, 0);
        Check.due("the fork's own one", true, x.takeAway(1, 3));
        Check.due("the teacher's again", 101, x.orderOf(1, 3));
        x.order(1, 3, LEAVE, 0, 0);
        Check.due("the teacher's own one", true, x.takeAway(0, 3));
        Check.due("nothing", 0, x.orderOf(0, 3));
        Check.due("the fork's own one stays", 200, x.orderOf(1, 3));
    }

    private static void takeAwayTurns() {
        MooringTree x = withShips(1);
        x.fork(0, 0);
        for (int turn : Check.TURNS) {
            x.order(0, turn, BERTH, 0, 2);
            x.order(1, turn, LEAVE, 0, 0);
        }
        for (int turn : Check.TURNS) {
            Check.due("the fork's", true, x.takeAway(1, turn));
            Check.due("the teacher's then", 102, x.orderOf(1, turn));
            Check.due("the turns behind stay", ALL_TURNS & -(2 << turn), x.differences(0, 1));
        }
        for (int turn : Check.TURNS) {
            Check.due("the teacher's", true, x.takeAway(0, turn));
            Check.due("nothing then", 0, x.orderOf(1, turn));
        }
        for (int line : Check.upTo(0, 1)) {
            Check.dueThrows("for the turn", Check.INDEX, Check.NO_TURNS, turn -> x.takeAway(line, turn));
        }
    }

    private static void hadOne() {
        MooringTree x = withShips(1);
        x.fork(0, 0);
        for (int line : Check.upTo(0, 1)) {
            Check.due("none yet", false, x.takeAway(line, 0));
            x.order(line, 0, LEAVE, 0, 0);
            Check.due("one", true, x.takeAway(line, 0));
            Check.due("none any more", false, x.takeAway(line, 0));
        }
        x.look(1, 29);
        x.order(1, 0, LEAVE, 0, 0);
        Check.due("one that looks ahead", true, x.takeAway(1, 0));
        Check.due("no more", false, x.takeAway(1, 0));
    }

    private static void hadNothing() {
        MooringTree x = withShips(1);
        x.fork(0, 0);
        for (int line : Check.upTo(0, 1)) {
            x.order(line, 29, 0, 0, 0);
            Check.due("an own order of nothing", true, x.takeAway(line, 29));
            Check.due("none any more", false, x.takeAway(line, 29));
        }
    }

    private static void hadNoneEarlierThanTheFork() {
        MooringTree x = withShips(1);
        x.order(0, 0, BERTH, 0, 0);
        x.order(0, 28, BERTH, 0, 0);
        x.fork(0, 29);
        for (int turn : Check.upTo(0, 28)) {
            Check.due("earlier than the fork: " + turn, false, x.takeAway(1, turn));
        }
        Check.due("the first one stays", 100, x.orderOf(1, 0));
        Check.due("the last one stays", 100, x.orderOf(1, 28));
        x.order(1, 29, 0, 0, 0);
        Check.due("the fork's own turn", true, x.takeAway(1, 29));
    }

    private static void takeAwayOfNoLineOrTurn() {
        MooringTree x = withShips(1);
        x.order(0, 0, BERTH, 0, 0);
        x.order(0, 29, BERTH, 0, 0);
        Check.dueThrows("line, without forks", Check.INDEX, Check.outside(0, 0), line -> x.takeAway(line, 0));
        x.fork(0, 15);
        Check.dueThrows("line", Check.INDEX, Check.outside(0, 1), line -> x.takeAway(line, 0));
        Check.dueThrows("turn", Check.INDEX, Check.NO_TURNS, turn -> x.takeAway(0, turn));
        Check.dueThrows("turn of the fork", Check.INDEX, Check.NO_TURNS, turn -> x.takeAway(1, turn));
        Check.dueThrows("both", Check.INDEX, Check.NO_TURNS, wrong -> x.takeAway(wrong, wrong));
        Check.due("the first stays", 100, x.orderOf(0, 0));
        Check.due("the last stays", 100, x.orderOf(0, 29));
    }

    // ---- promise 8

    private static void orderOfEachLine() {
        MooringTree x = withShips(8);
        for (int fork : FORKS) {
            x.fork(0, 3 * fork);
            x.order(fork, 3 * fork, LEAVE, fork - 1, 0);
        }
        x.order(0, 24, BERTH, 5, 1);
        for (int line : LINES) {
            for (int fork : FORKS) {
                int due = fork == line ? 190 + 10 * fork : fork == 8 ? 151 : 0;
                Check.due("the line " + line + ", turn " + 3 * fork, due, x.orderOf(line, 3 * fork));
            }
        }
    }

    private static void ordersAsTold() {
        MooringTree x = withShips(8);
        x.fork(0, 0);
        for (int ship : Check.SHIPS) {
            for (int berth : Check.BERTHS) {
                int line = berth % 2;
                x.order(line, ship, BERTH, ship, berth);
                Check.due("BERTH", 100 + 10 * ship + berth, x.orderOf(line, ship));
                x.order(line, ship, LEAVE, ship, berth);
                Check.due("LEAVE has the berth 0", 200 + 10 * ship, x.orderOf(line, ship));
                x.order(line, ship, 0, ship, berth);
                Check.due("nothing", 0, x.orderOf(line, ship));
            }
        }
    }

    private static void orderOfTurns() {
        MooringTree x = withShips(1);
        x.fork(0, 29);
        for (int turn : Check.TURNS) {
            x.order(0, turn, BERTH, 0, turn % 3);
            Check.due("the teacher's", 100 + turn % 3, x.orderOf(0, turn));
            Check.due("the fork's", 100 + turn % 3, x.orderOf(1, turn));
        }
        Check.dueThrows("the teacher's, turn", Check.INDEX, Check.NO_TURNS, turn -> x.orderOf(0, turn));
        Check.dueThrows("the fork's, turn", Check.INDEX, Check.NO_TURNS, turn -> x.orderOf(1, turn));
    }

    private static void orderOfNoLineOrTurn() {
        MooringTree x = withShips(1);
        Check.dueThrows("line, without forks", Check.INDEX, Check.outside(0, 0), line -> x.orderOf(line, 0));
        for (int forks : FORKS) {
            x.fork(0, 0);
            Check.dueThrows("line, with " + forks + " forks", Check.INDEX, Check.outside(0, forks),
                    line -> x.orderOf(line, 29));
        }
        Check.dueThrows("turn", Check.INDEX, Check.NO_TURNS, turn -> x.orderOf(8, turn));
        Check.dueThrows("both", Check.INDEX, Check.NO_TURNS, wrong -> x.orderOf(wrong, wrong));
    }

    // ---- promise 9

    private static void differentAsTold() {
        MooringTree x = withShips(2);
        x.order(0, 1, BERTH, 0, 1);
        x.fork(0, 0);
        Check.due("none yet", 0, x.differences(0, 1));
        x.order(1, 1, BERTH, 0, 1);
        Check.due("an own one that is alike", 0, x.differences(0, 1));
        x.order(1, 1, BERTH, 0, 2);
        Check.due("another berth", 1 << 1, x.differences(0, 1));
        x.order(1, 1, BERTH, 1, 1);
        Check.due("another ship", 1 << 1, x.differences(0, 1));
        x.order(1, 1, LEAVE, 0, 1);
        Check.due("another kind", 1 << 1, x.differences(0, 1));
        x.order(1, 1, 0, 0, 1);
        Check.due("nothing in place of it", 1 << 1, x.differences(0, 1));
        x.order(0, 1, LEAVE, 1, 2);
        x.order(1, 1, LEAVE, 1, 0);
        Check.due("LEAVE with another berth is alike", 0, x.differences(0, 1));
        x.order(1, 1, LEAVE, 0, 2);
        Check.due("LEAVE of another ship is not", 1 << 1, x.differences(0, 1));
        x.order(0, 1, 0, 0, 0);
        x.order(1, 1, 0, 1, 2);
        Check.due("nothing is alike", 0, x.differences(0, 1));
        x.takeAway(0, 1);
        Check.due("nothing and no order are alike", 0, x.differences(0, 1));
        x.order(1, 29, LEAVE, 0, 0);
        x.order(1, 28, BERTH, 0, 0);
        Check.due("that an order fails does not count", 3 << 28, x.differences(0, 1));
    }

    private static void differencesBits() {
        MooringTree x = withShips(1);
        x.fork(0, 0);
        int turns = 0;
        for (int turn : Check.TURNS) {
            x.order(1, turn, BERTH, 0, 0);
            turns |= 1 << turn;
            Check.due("up to " + turn, turns, x.differences(0, 1));
        }
        Check.due("all of them", ALL_TURNS, x.differences(1, 0));
        for (int turn : Check.TURNS) {
            MooringTree y = withShips(1);
            y.fork(0, turn);
            y.order(1, turn, BERTH, 0, 0);
            Check.due("the turn " + turn + " alone", 1 << turn, y.differences(0, 1));
        }
    }

    private static void differencesOfEachTwoLines() {
        MooringTree x = withShips(1);
        for (int fork : FORKS) {
            x.fork(0, fork);
            x.order(fork, fork, BERTH, 0, 0);
        }
        for (int one : LINES) {
            for (int other : LINES) {
                int due = (one == other ? 0 : 1 << one | 1 << other) & ~1;
                Check.due("differences(" + one + ", " + other + ")", due, x.differences(one, other));
            }
        }
    }

    private static void differencesOfALineAndItself() {
        MooringTree x = withShips(1);
        for (int fork : FORKS) {
            x.fork(fork - 1, 0);
            x.order(fork, fork, BERTH, 0, 0);
        }
        for (int line : LINES) {
            Check.due("with itself", 0, x.differences(line, line));
            Check.due("with the teacher's, through all below", (2 << line) - 2, x.differences(line, 0));
            Check.due("the other way round", (2 << line) - 2, x.differences(0, line));
        }
    }

    private static void differencesOfNoLine() {
        MooringTree x = withShips(1);
        Check.dueThrows("both, without forks", Check.INDEX, Check.outside(0, 0), line -> x.differences(line, line));
        for (int forks : FORKS) {
            x.fork(0, 0);
            int[] wrong = Check.outside(0, forks);
            Check.dueThrows("one, with " + forks + " forks", Check.INDEX, wrong, one -> x.differences(one, 0));
            Check.dueThrows("other, with " + forks, Check.INDEX, wrong, other -> x.differences(forks, other));
            Check.dueThrows("both, with " + forks, Check.INDEX, wrong, line -> x.differences(line, line));
        }
    }
}
