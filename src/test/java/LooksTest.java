/** What the terms say of earnings, looks and marks, and promises 13 to 17. */
final class LooksTest {
    private static final int[] FORKS = Check.upTo(1, 8);
    private static final int BERTH = MooringTree.BERTH;
    private static final int LEAVE = MooringTree.LEAVE;

    public static void main(String[] args) {
        earnings();
        looks();
        marks();
        look();
        seen();
        ahead();
        mark();
        best();
        Check.end();
    }

    private static void earnings() {
        Check.says("and earns the price, 3 at first, for each", LooksTest::firstPrice);
        Check.says("and each ship that waits costs the fee, 1 at first.", LooksTest::firstFee);
        Check.says("and each ship that waits costs the fee", LooksTest::onlyShipsThatWaitCost);
        Check.says("The earning of a line behind a turn is what all ships have earned less what they have cost,",
                LooksTest::earningOfAllShips);
        Check.says("from the turn 0 to that", LooksTest::earningTurnByTurn);
        Check.says("with the rules as they are now.", LooksTest::rulesAsTheyAreNow);
    }

    private static void looks() {
        Check.says("A look at a line in a turn tells its earning", LooksTest::earningLookedAtInAnyOrder);
        Check.says("lets the line be seen up to that turn, if it was not seen so far", LooksTest::seenGoesUpOnly);
        Check.says("(no other question does)", LooksTest::otherCallsAreNoLook);
        Check.says("a fork is seen as far as the line of which it is made was when it was made.",
                LooksTest::forkIsSeenAsFarAsItsLine);
        Check.says("An order of a fork looks ahead if it was given when the fork had been seen in a later turn than that"
                + " of the order.", LooksTest::seenInALaterTurn);
        Check.says("if it was given when the fork had been seen", LooksTest::seenWhenItWasGiven);
    }

    private static void marks() {
        Check.says("The mark of a line is 50 and the earning of the line behind the turn 29, less that of the line 0;",
                LooksTest::markAgainstTheTeacher);
        Check.says("but 0 at least and 100 at most", LooksTest::markEdges);
        Check.says("and 0 if one of its own orders looks ahead.", LooksTest::markOfAnOrderAhead);
        Check.says("if one of its own orders looks ahead", LooksTest::markOfAnOrderAheadBelow);
        Check.says("it has orders of its own for that turn and later ones", LooksTest::ordersBelowAreNoneOfItsOwn);
        Check.says("The line 0 has the mark 50.", LooksTest::teachersMark);
    }

    private static void look() {
        Check.says("Looks at a line.", LooksTest::lookAtEachLine);
        Check.says("turn: 0 to 29", LooksTest::lookTurns);
        Check.says("Returns the earning of the line behind the turn.", LooksTest::leastAndGreatestEarning);
        Check.says("Throws IndexOutOfBoundsException if there is no such line or turn", LooksTest::lookAtNoLineOrTurn);
    }

    private static void seen() {
        Check.says("Returns up to which turn a line was seen.", LooksTest::seenOfEachLine);
        Check.says("Returns the turn, -1 if it was not seen.", LooksTest::seenInEachTurn);
        Check.says("Throws IndexOutOfBoundsException if there is no such line", LooksTest::seenOfNoLine);
    }

    private static void ahead() {
        Check.says("Returns the turns for which a line has orders of its own that look ahead.",
                LooksTest::aheadIsOfOwnOrders);
        Check.says("orders of its own that look ahead.", LooksTest::aheadGoesWithTheOrder);
        Check.says("Returns the turns, as a set: bit t for the turn t.", LooksTest::aheadBits);
        Check.says("Throws IndexOutOfBoundsException if there is no such line", LooksTest::aheadOfNoLine);
    }

    private static void mark() {
        Check.says("Returns the mark of a line. That is no look.", LooksTest::markIsNoLook);
        Check.says("Returns 0 to 100.", LooksTest::eachMark);
        Check.says("Returns the mark of a line.", LooksTest::markMovesWithTheWorld);
        Check.says("Throws IndexOutOfBoundsException if there is no such line", LooksTest::markOfNoLine);
    }

    private static void best() {
        Check.says("Returns the fork with the best mark", LooksTest::bestOfSeveral);
        Check.says("of several the lowest one.", LooksTest::lowestOfSeveral);
        Check.says("Returns the fork, -1 if there is none.", LooksTest::bestOfNone);
        Check.says("Returns the fork", LooksTest::bestOfBadMarks);
    }

    private static MooringTree withShips(int ships, int cargo) {
        MooringTree x = new MooringTree();
        for (int ship = 0; ship < ships; ship++) {
            x.addShip(0, 0, cargo);
        }
        return x;
    }

    private static MooringTree withForks(int forks) {
        MooringTree x = withShips(1, 10);
        for (int fork = 0; fork < forks; fork++) {
            x.fork(0, 0);
        }
        return x;
    }

    // ---- earnings

    private static void firstPrice() {
        for (int cargo : Check.upTo(1, 4)) {
            MooringTree x = withShips(1, cargo);
            x.order(0, 0, BERTH, 0, 0);
            Check.due("3 for each of " + cargo, 3 * cargo, x.look(0, 0));
            Check.due("and no more", 3 * cargo, x.look(0, 29));
        }
    }

    private static void firstFee() {
        for (int ships : Check.upTo(0, 8)) {
            MooringTree x = withShips(ships, 1);
            Check.due("one turn of " + ships, -ships, x.look(0, 0));
            Check.due("two turns of " + ships, -2 * ships, x.look(0, 1));
            Check.due("30 turns of " + ships, -30 * ships, x.look(0, 29));
        }
    }

    private static void onlyShipsThatWaitCost() {
        MooringTree x = new MooringTree();
        x.addShip(2, 0, 4);
        x.order(0, 4, BERTH, 0, 0);
        x.order(0, 7, LEAVE, 0, 0);
        x.setRules(0, 1);
        int[] due = {0, 0, -1, -2, -2, -2, -2, -2, -2};
        for (int turn = 0; turn < due.length; turn++) {
            Check.due("comes in 2, put in 4, left in 7: " + turn, due[turn], x.look(0, turn));
        }
        Check.due("at the end", -2, x.look(0, 29));
        x.addShip(29, 0, 1);
        Check.due("one that comes in 29: before", -2, x.look(0, 28));
        Check.due("and then", -3, x.look(0, 29));
    }

    private static void earningOfAllShips() {
        MooringTree x = withShips(4, 100);
        x.setRate(1, 7);
        x.setRate(2, 20);
        for (int berth : Check.BERTHS) {
            x.order(0, berth, BERTH, berth, berth);
        }
        Check.due("one of four", 4 * 3 - 3, x.look(0, 0));
        Check.due("two of four", 9 + 11 * 3 - 2, x.look(0, 1));
        Check.due("three of four", 40 + 31 * 3 - 1, x.look(0, 2));
        Check.due("all three unloaded", 900 - 3 - 2 - 28, x.look(0, 29));
    }

    private static void earningTurnByTurn() {
        MooringTree x = new MooringTree();
        x.addShip(1, 0, 10);
        x.order(0, 3, BERTH, 0, 0);
        x.order(0, 7, LEAVE, 0, 0);
        int[] earnings = {0, -1, -2, 10, 22, 28, 28, 28, 28};
        for (int turn = 0; turn < earnings.length; turn++) {
            Check.due("look(0, " + turn + ")", earnings[turn], x.look(0, turn));
        }
        Check.due("the turn 29", 28, x.look(0, 29));
        MooringTree y = withShips(1, 10);
        y.order(0, 0, BERTH, 0, 0);
        Check.due("the turn 0 counts", 12, y.look(0, 0));
        y.takeAway(0, 0);
        y.order(0, 29, BERTH, 0, 0);
        Check.due("before the turn 29", -29, y.look(0, 28));
        Check.due("the turn 29 counts", -17, y.look(0, 29));
    }

    private static void rulesAsTheyAreNow() {
        MooringTree x = withShips(1, 10);
        x.order(0, 5, BERTH, 0, 0);
        Check.due("at first", 25, x.look(0, 29));
        x.setRules(100, 0);
        Check.due("another price, for the turns before too", 1000, x.look(0, 29));
        x.setRules(0, 100);
        Check.due("another fee, for the turns before too", -500, x.look(0, 29));
        x.setRules(3, 1);
        Check.due("as at first", 25, x.look(0, 29));
        x.setRate(0, 0);
        Check.due("another rate", -5, x.look(0, 29));
        x.addShip(28, 0, 1);
        Check.due("another ship", -7, x.look(0, 29));
    }

    // ---- looks

    private static void earningLookedAtInAnyOrder() {
        MooringTree x = withShips(1, 100);
        x.order(0, 10, BERTH, 0, 0);
        for (int turn : Check.TURNS) {
            int back = 29 - turn;
            int due = back < 10 ? -1 - back : Math.min(100, 4 * (back - 9)) * 3 - 10;
            Check.due("look(0, " + back + ")", due, x.look(0, back));
            Check.due("look(0, " + back + ") again", due, x.look(0, back));
        }
    }

    private static void seenGoesUpOnly() {
        for (int line : Check.upTo(0, 1)) {
            MooringTree x = withForks(1);
            x.look(line, 0);
            Check.due("the turn 0", 0, x.seen(line));
            x.look(line, 12);
            Check.due("a later one", 12, x.seen(line));
            x.look(line, 12);
            Check.due("the same one", 12, x.seen(line));
            x.look(line, 11);
            Check.due("an earlier one", 12, x.seen(line));
            x.look(line, 0);
            Check.due("the turn 0 again", 12, x.seen(line));
            x.look(line, 29);
            Check.due("the turn 29", 29, x.seen(line));
            x.look(line, 28);
            Check.due("nothing takes that back", 29, x.seen(line));
            Check.due("the other line is not seen by it", -1, x.seen(1 - line));
        }
    }

    private static void otherCallsAreNoLook() {
        MooringTree x = withForks(1);
        for (int line : Check.upTo(0, 1)) {
            x.order(line, 29, BERTH, 0, 0);
            x.orderOf(line, 29);
            x.differences(0, line);
            x.where(line, 0, 29);
            x.cargo(line, 0, 29);
            x.failures(line);
            x.seen(line);
            x.ahead(line);
            x.mark(line);
            x.takeAway(line, 29);
            x.fork(line, 29);
        }
        x.best();
        x.setRate(0, 1);
        x.setRules(1, 1);
        x.addShip(0, 0, 1);
        Check.dueThrow("a refused look", Check.INDEX, () -> x.look(0, 30));
        Check.dueThrow("a refused look at a fork", Check.INDEX, () -> x.look(1, 30));
        for (int line : Check.upTo(0, 3)) {
            Check.due("not seen", -1, x.seen(line));
        }
    }

    private static void forkIsSeenAsFarAsItsLine() {
        for (int turn : Check.TURNS) {
            MooringTree x = withForks(1);
            x.look(0, turn);
            Check.due("a fork, wherever it is made", 2, x.fork(0, 29 - turn));
            Check.due("seen as far as its line", turn, x.seen(2));
            Check.due("not so the one made before", -1, x.seen(1));
            x.look(0, 29);
            Check.due("nor by a later look at its line", turn, x.seen(2));
            x.fork(2, 0);
            Check.due("a fork of that fork", turn, x.seen(3));
            x.look(3, 29);
            Check.due("seen by a look at it", 29, x.seen(3));
            Check.due("which is none at its line", turn, x.seen(2));
            x.fork(1, 0);
            Check.due("a fork of the unseen one, not of the teacher's", -1, x.seen(4));
        }
    }

    private static void seenInALaterTurn() {
        for (int seen : Check.upTo(-1, 29)) {
            MooringTree looked = withForks(1);
            MooringTree made = withShips(1, 10);
            if (seen >= 0) {
                looked.look(1, seen);
                made.look(0, seen);
            }
            made.fork(0, 0);
            for (int turn : Check.TURNS) {
                String call = "seen in " + seen + ", an order for " + turn;
                Check.due(call, seen > turn, looked.order(1, turn, turn % 3, 0, 0));
                Check.due(call + ", seen by its line", seen > turn, made.order(1, turn, turn % 3, 0, 0));
            }
            Check.due("all of them", seen < 0 ? 0 : (1 << seen) - 1, looked.ahead(1));
            Check.due("all of them", seen < 0 ? 0 : (1 << seen) - 1, made.ahead(1));
        }
    }

    private static void seenWhenItWasGiven() {
        MooringTree x = withForks(1);
        Check.due("given before the look", false, x.order(1, 3, BERTH, 0, 0));
        x.look(1, 29);
        Check.due("it does not look ahead", 0, x.ahead(1));
        Check.due("nor does it cost the mark", 100, x.mark(1));
        Check.due("given again behind the look", true, x.order(1, 3, BERTH, 0, 0));
        Check.due("it does", 1 << 3, x.ahead(1));
        x.takeAway(1, 3);
        x.look(0, 29);
        x.fork(0, 0);
        Check.due("the teacher's look came before the fork", true, x.order(2, 28, BERTH, 0, 0));
        MooringTree y = withForks(1);
        y.look(0, 29);
        Check.due("the teacher's look came behind the fork", false, y.order(1, 28, BERTH, 0, 0));
    }

    // ---- marks

    private static void markAgainstTheTeacher() {
        MooringTree x = withShips(1, 3);
        x.order(0, 10, BERTH, 0, 0);
        x.fork(0, 0);
        x.fork(0, 0);
        Check.due("as the teacher", 50, x.mark(1));
        x.order(1, 5, BERTH, 0, 0);
        Check.due("five turns sooner", 55, x.mark(1));
        x.order(2, 10, 0, 0, 0);
        x.order(2, 12, BERTH, 0, 0);
        Check.due("two turns later", 48, x.mark(2));
        x.order(0, 7, BERTH, 0, 1);
        Check.due("the teacher does better", 52, x.mark(1));
        Check.due("and so does the other fork", 50, x.mark(2));
        x.order(1, 5, 0, 0, 0);
        x.order(1, 7, 0, 0, 0);
        x.order(1, 10, 0, 0, 0);
        x.order(1, 29, BERTH, 0, 0);
        Check.due("the turn 29 counts", 28, x.mark(1));
    }

    /** The mark of a fork that unloads a cargo of the price 1, at no fee, against a teacher who does not. */
    private static int markOfEarning(int cargo) {
        MooringTree x = withShips(1, cargo);
        x.setRules(1, 0);
        x.fork(0, 0);
        x.order(1, 0, BERTH, 0, 0);
        return x.mark(1);
    }

    /** The mark of a fork that earns nothing, against a teacher who unloads a cargo of the price 1. */
    private static int markAgainstEarning(int cargo) {
        MooringTree x = withShips(1, cargo);
        x.setRules(1, 0);
        x.order(0, 0, BERTH, 0, 0);
        x.fork(0, 0);
        x.order(1, 0, 0, 0, 0);
        return x.mark(1);
    }

    private static void markEdges() {
        Check.due("49 more", 99, markOfEarning(49));
        Check.due("50 more", 100, markOfEarning(50));
        Check.due("51 more", 100, markOfEarning(51));
        Check.due("100 more", 100, markOfEarning(100));
        Check.due("49 less", 1, markAgainstEarning(49));
        Check.due("50 less", 0, markAgainstEarning(50));
        Check.due("51 less", 0, markAgainstEarning(51));
        Check.due("100 less", 0, markAgainstEarning(100));
        MooringTree x = withShips(1, 100);
        x.setRules(100, 100);
        x.order(0, 0, BERTH, 0, 0);
        x.fork(0, 0);
        x.order(1, 0, 0, 0, 0);
        Check.due("13000 less", 0, x.mark(1));
        x.takeAway(1, 0);
        Check.due("as much", 50, x.mark(1));
        x.order(0, 0, 0, 0, 0);
        x.order(1, 0, BERTH, 0, 0);
        Check.due("13000 more", 100, x.mark(1));
    }

    private static void markOfAnOrderAhead() {
        for (int turn : Check.upTo(0, 28)) {
            MooringTree x = withForks(1);
            x.look(1, turn + 1);
            x.order(1, turn, BERTH, 0, 0);
            Check.due("an order ahead for " + turn, 0, x.mark(1));
            x.takeAway(1, turn);
            Check.due("taken away", 50, x.mark(1));
            x.order(1, turn, 0, 0, 0);
            Check.due("an order of nothing, ahead", 0, x.mark(1));
            x.order(1, turn + 1, BERTH, 0, 0);
            Check.due("one of two", 0, x.mark(1));
            x.takeAway(1, turn);
            x.takeAway(1, turn + 1);
            Check.due("both taken away", 50, x.mark(1));
        }
        MooringTree y = withForks(1);
        y.look(1, 29);
        y.order(1, 0, LEAVE, 0, 0);
        y.order(1, 28, LEAVE, 0, 0);
        y.takeAway(1, 28);
        Check.due("one of two is left", 0, y.mark(1));
        y.takeAway(1, 0);
        y.order(1, 29, BERTH, 0, 0);
        Check.due("an own order that does not look ahead", 50 + 1 + 12, y.mark(1));
    }

    private static void markOfAnOrderAheadBelow() {
        MooringTree x = withForks(1);
        x.look(1, 1);
        x.order(1, 0, BERTH, 0, 0);
        x.fork(1, 0);
        Check.due("an own order of its line", 100, x.mark(2));
        Check.due("the line itself", 0, x.mark(1));
        x.order(2, 0, 0, 0, 0);
        Check.due("an own one now", 0, x.mark(2));
    }

    /** The fork 1 orders ahead both before and behind the turn at which forks are made of it, and they gain by it. */
    private static void ordersBelowAreNoneOfItsOwn() {
        int inTwoTurns = 50 + 2 * 4 * 3 + 2;
        for (int forked : Check.TURNS) {
            MooringTree x = withForks(1);
            x.look(1, 29);
            x.order(1, 28, BERTH, 0, 0);
            x.fork(1, forked);
            x.fork(2, 29 - forked);
            String call = "forked at " + forked;
            Check.due(call + ": the line below", 0, x.mark(1));
            Check.due(call + ": a fork of it", inTwoTurns, x.mark(2));
            Check.due(call + ": a fork of that", inTwoTurns, x.mark(3));
            Check.due(call + ": the lowest one that has the best mark", 2, x.best());
            x.order(1, 0, BERTH, 0, 0);
            Check.due(call + ": another one below, given later", 100, x.mark(2));
            Check.due(call + ": none of its own", 0, x.ahead(2));
            Check.due(call + ": none of that of the fork's fork", 0, x.ahead(3));
            Check.due(call + ": an own one in its turn", forked < 29, x.order(2, forked, 0, 0, 0));
            Check.due(call + ": that one counts", forked < 29 ? 0 : 100, x.mark(2));
            Check.due(call + ": not for the fork's fork", forked == 0 ? inTwoTurns : 100, x.mark(3));
        }
    }

    private static void teachersMark() {
        MooringTree x = new MooringTree();
        Check.due("without ships", 50, x.mark(0));
        x.addShip(0, 0, 100);
        Check.due("with a loss", 50, x.mark(0));
        x.order(0, 0, BERTH, 0, 0);
        x.setRules(100, 100);
        Check.due("with a gain", 50, x.mark(0));
        x.look(0, 29);
        x.order(0, 0, BERTH, 0, 1);
        x.order(0, 28, 0, 0, 0);
        Check.due("with orders given behind a look", 50, x.mark(0));
        x.fork(0, 0);
        x.order(1, 0, 0, 0, 0);
        Check.due("with a fork that looks ahead", 50, x.mark(0));
    }

    // ---- promise 13

    private static void lookAtEachLine() {
        MooringTree x = withForks(8);
        for (int fork : FORKS) {
            x.order(fork, fork, BERTH, 0, 0);
        }
        Check.due("the teacher's line", -30, x.look(0, 29));
        for (int fork : FORKS) {
            Check.due("the fork " + fork, 30 - fork, x.look(fork, 29));
            Check.due("the turn 0 of it", -1, x.look(fork, 0));
        }
    }

    private static void lookTurns() {
        MooringTree x = withForks(1);
        for (int turn : Check.TURNS) {
            Check.due("the teacher's, turn " + turn, -1 - turn, x.look(0, turn));
            Check.due("the fork's, turn " + turn, -1 - turn, x.look(1, turn));
        }
        Check.dueThrows("the teacher's, turn", Check.INDEX, Check.NO_TURNS, turn -> x.look(0, turn));
        Check.dueThrows("the fork's, turn", Check.INDEX, Check.NO_TURNS, turn -> x.look(1, turn));
    }

    private static void leastAndGreatestEarning() {
        MooringTree x = withShips(8, 100);
        x.setRules(100, 100);
        Check.due("eight ships wait for 30 turns", -24000, x.look(0, 29));
        x.setRules(100, 0);
        for (int berth : Check.BERTHS) {
            x.setRate(berth, 20);
        }
        int waiting = 3;
        for (int turn : Check.BERTHS) {
            x.order(0, turn, BERTH, turn, turn);
        }
        for (int turn = 5; waiting < 8; turn += 2) {
            x.order(0, turn, LEAVE, waiting - 3, 0);
            x.order(0, turn + 1, BERTH, waiting, waiting % 3);
            waiting++;
        }
        Check.due("nothing fails", 0, x.failures(0));
        Check.due("eight ships unloaded", 80000, x.look(0, 29));
        Check.due("the last one in the turn 18", 80000, x.look(0, 18));
        Check.due("not sooner", 78000, x.look(0, 17));
    }

    private static void lookAtNoLineOrTurn() {
        MooringTree x = withForks(1);
        x.look(0, 4);
        Check.dueThrows("line", Check.INDEX, Check.outside(0, 1), line -> x.look(line, 29));
        Check.dueThrows("turn", Check.INDEX, Check.NO_TURNS, turn -> x.look(0, turn));
        Check.dueThrows("turn of the fork", Check.INDEX, Check.NO_TURNS, turn -> x.look(1, turn));
        Check.dueThrows("both", Check.INDEX, Check.NO_TURNS, wrong -> x.look(wrong, wrong));
        Check.due("seen as before", 4, x.seen(0));
        Check.due("not seen, as before", -1, x.seen(1));
    }

    // ---- promise 14

    private static void seenOfEachLine() {
        MooringTree x = withForks(8);
        for (int fork : FORKS) {
            x.look(fork, 29 - fork);
        }
        for (int fork : FORKS) {
            Check.due("the fork " + fork, 29 - fork, x.seen(fork));
        }
        Check.due("the teacher's line", -1, x.seen(0));
    }

    private static void seenInEachTurn() {
        for (int line : Check.upTo(0, 1)) {
            MooringTree x = withForks(1);
            Check.due("not seen", -1, x.seen(line));
            for (int turn : Check.TURNS) {
                x.look(line, turn);
                Check.due("seen", turn, x.seen(line));
                Check.due("asking changes nothing", turn, x.seen(line));
            }
        }
    }

    private static void seenOfNoLine() {
        MooringTree x = new MooringTree();
        Check.dueThrows("without forks, line", Check.INDEX, Check.outside(0, 0), line -> x.seen(line));
        for (int forks : FORKS) {
            x.fork(0, 0);
            Check.dueThrows("with " + forks + " forks", Check.INDEX, Check.outside(0, forks), line -> x.seen(line));
        }
    }

    // ---- promise 15

    private static void aheadIsOfOwnOrders() {
        MooringTree x = withShips(1, 10);
        x.look(0, 29);
        x.order(0, 3, BERTH, 0, 0);
        Check.due("none of the line 0", 0, x.ahead(0));
        x.fork(0, 0);
        x.order(1, 4, BERTH, 0, 0);
        x.fork(1, 0);
        Check.due("its own", 1 << 4, x.ahead(1));
        Check.due("not that of its line", 0, x.ahead(2));
        x.order(2, 28, BERTH, 0, 0);
        Check.due("its own one", 1 << 28, x.ahead(2));
        Check.due("which is none of its line", 1 << 4, x.ahead(1));
    }

    private static void aheadGoesWithTheOrder() {
        MooringTree x = withForks(1);
        x.order(1, 3, BERTH, 0, 0);
        x.look(1, 29);
        x.order(1, 28, BERTH, 0, 0);
        x.order(1, 0, 0, 0, 0);
        x.order(1, 29, BERTH, 0, 0);
        Check.due("28 and 0, not 29", 1 | 1 << 28, x.ahead(1));
        x.order(1, 28, LEAVE, 0, 0);
        Check.due("one in place of it", 1 | 1 << 28, x.ahead(1));
        x.order(1, 28, 0, 0, 0);
        Check.due("nothing in place of it", 1 | 1 << 28, x.ahead(1));
        x.takeAway(1, 0);
        Check.due("taken away", 1 << 28, x.ahead(1));
        x.order(1, 3, LEAVE, 0, 0);
        Check.due("in place of one that did not", 1 << 3 | 1 << 28, x.ahead(1));
        x.takeAway(1, 3);
        x.takeAway(1, 28);
        Check.due("none left", 0, x.ahead(1));
        Check.dueThrow("a refused one", Check.ARGUMENT, () -> x.order(1, 5, 3, 0, 0));
        Check.due("none of it", 0, x.ahead(1));
    }

    private static void aheadBits() {
        for (int turn : Check.upTo(0, 28)) {
            MooringTree x = withForks(1);
            x.look(1, 29);
            Check.due("none", 0, x.ahead(1));
            x.order(1, turn, BERTH, 0, 0);
            Check.due("the turn " + turn + " alone", 1 << turn, x.ahead(1));
        }
        MooringTree y = withForks(1);
        y.look(1, 29);
        for (int turn : Check.TURNS) {
            y.order(1, turn, BERTH, 0, 0);
        }
        Check.due("all but the turn 29", (1 << 29) - 1, y.ahead(1));
    }

    private static void aheadOfNoLine() {
        MooringTree x = new MooringTree();
        Check.dueThrows("without forks, line", Check.INDEX, Check.outside(0, 0), line -> x.ahead(line));
        for (int forks : FORKS) {
            x.fork(0, 0);
            Check.dueThrows("with " + forks + " forks", Check.INDEX, Check.outside(0, forks), line -> x.ahead(line));
        }
    }

    // ---- promise 16

    private static void markIsNoLook() {
        MooringTree x = withForks(1);
        for (int line : Check.upTo(0, 1)) {
            x.mark(line);
            Check.due("not seen", -1, x.seen(line));
        }
        Check.due("an order behind it does not look ahead", false, x.order(1, 0, BERTH, 0, 0));
        x.best();
        Check.due("nor one behind best()", false, x.order(1, 0, BERTH, 0, 0));
    }

    private static void eachMark() {
        for (int more : Check.upTo(1, 100)) {
            Check.due(more + " more", Math.min(100, 50 + more), markOfEarning(more));
            Check.due(more + " less", Math.max(0, 50 - more), markAgainstEarning(more));
        }
    }

    private static void markMovesWithTheWorld() {
        MooringTree x = withShips(1, 8);
        x.order(0, 2, BERTH, 0, 0);
        x.fork(0, 0);
        x.order(1, 1, BERTH, 0, 0);
        Check.due("fee 1", 51, x.mark(1));
        x.setRules(3, 20);
        Check.due("fee 20", 70, x.mark(1));
        x.setRules(3, 0);
        x.setRate(0, 0);
        x.order(1, 1, BERTH, 0, 1);
        Check.due("a berth that unloads", 74, x.mark(1));
        x.addShip(0, 0, 1);
        Check.due("a ship that waits in both lines", 74, x.mark(1));
        x.order(0, 3, BERTH, 1, 1);
        Check.due("put by the teacher alone, as the berth is taken in the fork", 71, x.mark(1));
    }

    private static void markOfNoLine() {
        MooringTree x = new MooringTree();
        Check.dueThrows("without forks, line", Check.INDEX, Check.outside(0, 0), line -> x.mark(line));
        for (int forks : FORKS) {
            x.fork(0, 0);
            Check.dueThrows("with " + forks + " forks", Check.INDEX, Check.outside(0, forks), line -> x.mark(line));
        }
    }

    // ---- promise 17

    private static void bestOfSeveral() {
        for (int better : FORKS) {
            MooringTree x = withForks(8);
            x.order(better, 28, BERTH, 0, 0);
            Check.due("the only better one", better, x.best());
            x.order(9 - better, 29, BERTH, 0, 0);
            Check.due("better than a good one", better, x.best());
            x.order(9 - better, 27, BERTH, 0, 0);
            Check.due("but not than this one", 9 - better, x.best());
            x.look(9 - better, 29);
            x.order(9 - better, 0, 0, 0, 0);
            Check.due("which looks ahead then", better, x.best());
        }
    }

    private static void lowestOfSeveral() {
        MooringTree x = withForks(8);
        Check.due("all alike", 1, x.best());
        for (int fork = 8; fork >= 1; fork--) {
            x.order(fork, 29, BERTH, 0, 0);
            Check.due("those from " + fork + " on are alike", fork, x.best());
        }
        x.setRules(100, 0);
        Check.due("all have 100", 1, x.best());
        x.setRate(0, 1);
        x.order(8, 0, BERTH, 0, 0);
        Check.due("the eighth earns more, but has 100 too", 1, x.best());
    }

    private static void bestOfNone() {
        MooringTree x = new MooringTree();
        Check.due("a new object", -1, x.best());
        x.addShip(0, 0, 1);
        x.order(0, 0, BERTH, 0, 0);
        x.look(0, 29);
        Check.due("the line 0 is no fork", -1, x.best());
        Check.dueThrow("a refused fork", Check.INDEX, () -> x.fork(0, 30));
        Check.due("is none", -1, x.best());
        x.fork(0, 29);
        Check.due("one", 1, x.best());
    }

    private static void bestOfBadMarks() {
        MooringTree x = withForks(1);
        x.look(0, 29);
        x.fork(0, 0);
        x.order(1, 0, 0, 0, 0);
        x.order(2, 0, 0, 0, 0);
        Check.due("the first has 50, the second looks ahead", 1, x.best());
        x.look(1, 29);
        x.order(1, 0, 0, 0, 0);
        Check.due("both look ahead", 1, x.best());
        x.takeAway(2, 0);
        Check.due("50 is more than 0", 2, x.best());
        MooringTree y = withForks(2);
        y.setRules(100, 0);
        y.order(0, 0, BERTH, 0, 0);
        y.order(1, 0, 0, 0, 0);
        y.order(2, 0, 0, 0, 0);
        Check.due("both have 0, the line 0 has 50", 1, y.best());
    }
}
