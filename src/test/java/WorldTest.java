/** What the terms say of ships, berths and the number of calls, and promises 1 to 4. */
final class WorldTest {
    private static final int BERTH = MooringTree.BERTH;
    private static final int LEAVE = MooringTree.LEAVE;

    public static void main(String[] args) {
        terms();
        newObject();
        addShip();
        setRate();
        setRules();
        Check.end();
    }

    private static void terms() {
        Check.says("An object is used for at most 512 calls after it has been made", WorldTest::the512thCall);
        Check.says("Ships are numbered from 0, at most 8", WorldTest::shipsAreNumbered);
        Check.says("a ship has a turn in which it comes, a draught and a cargo", WorldTest::shipsAreApart);
        Check.says("Berths are 0 to 2; a berth has a rate, 4 at first", WorldTest::firstRates);
    }

    private static void newObject() {
        Check.says("Creates a harbour without ships", WorldTest::noShips);
        Check.says("Creates a harbour without ships and forks.", WorldTest::noForks);
        Check.says("MooringTree()", WorldTest::objectsAreApart);
    }

    private static void addShip() {
        Check.says("Adds a ship.", WorldTest::addedToAllLines);
        Check.says("comes: 0 to 29", WorldTest::comes);
        Check.says("draught: 0 to 2", WorldTest::draught);
        Check.says("cargo: 1 to 100", WorldTest::cargo);
        Check.says("Returns number of the ship.", WorldTest::numberOfTheShip);
        Check.says("Throws IllegalArgumentException if comes, draught or cargo is out of range",
                WorldTest::shipOutOfRange);
        Check.says("Throws IllegalStateException if there are 8 ships", WorldTest::ninthShip);
    }

    private static void setRate() {
        Check.says("Sets the rate of a berth, for all lines and turns.", WorldTest::rateForAllLinesAndTurns);
        Check.says("berth: 0 to 2", WorldTest::ratesOfTheBerths);
        Check.says("rate: 0 to 20", WorldTest::rates);
        Check.says("Returns the rate before.", WorldTest::rateBefore);
        Check.says("Throws IndexOutOfBoundsException if there is no such berth", WorldTest::rateOfNoBerth);
        Check.says("Throws IllegalArgumentException if rate is out of range", WorldTest::rateOutOfRange);
    }

    private static void setRules() {
        Check.says("Sets price and fee, for all lines and turns.", WorldTest::rulesForAllLinesAndTurns);
        Check.says("price: 0 to 100", WorldTest::prices);
        Check.says("fee: 0 to 100", WorldTest::fees);
        Check.says("Throws IllegalArgumentException if price or fee is out of range", WorldTest::rulesOutOfRange);
    }

    // ---- terms

    /** One ship that the teacher puts to the berth 1, and a fork with an own order that looks ahead and fails. */
    private static MooringTree behind511Calls() {
        MooringTree x = new MooringTree();
        x.addShip(0, 0, 10);
        x.order(0, 2, BERTH, 0, 1);
        x.fork(0, 1);
        x.look(1, 3);
        x.order(1, 2, LEAVE, 0, 0);
        for (int call = 6; call <= 511; call++) {
            switch (call % 5) {
                case 0 -> x.setRate(2, call % 21);
                case 1 -> x.setRules(3, call == 511 ? 1 : 2);
                case 2 -> x.order(0, 20 + call % 4, LEAVE, 0, 0);
                case 3 -> x.takeAway(0, 20 + (call - 1) % 4);
                default -> x.mark(1);
            }
        }
        return x;
    }

    private static void the512thCall() {
        Check.due("addShip", 1, behind511Calls().addShip(0, 0, 1));
        Check.due("setRate", 4, behind511Calls().setRate(0, 20));
        Check.due("setRules", "null", Check.answerOf(() -> {
            behind511Calls().setRules(0, 0);
            return null;
        }));
        Check.due("fork", 2, behind511Calls().fork(1, 29));
        Check.due("order", true, behind511Calls().order(1, 1, BERTH, 0, 0));
        Check.due("takeAway", true, behind511Calls().takeAway(1, 2));
        Check.due("orderOf", 200, behind511Calls().orderOf(1, 2));
        Check.due("differences", 1 << 2, behind511Calls().differences(0, 1));
        Check.due("where", 1, behind511Calls().where(0, 0, 2));
        Check.due("cargo", 2, behind511Calls().cargo(0, 0, 3));
        Check.due("failures", 1 << 2, behind511Calls().failures(1));
        Check.due("look", -30, behind511Calls().look(1, 29));
        Check.due("seen", 3, behind511Calls().seen(1));
        Check.due("ahead", 1 << 2, behind511Calls().ahead(1));
        Check.due("mark", 0, behind511Calls().mark(1));
        Check.due("best", 1, behind511Calls().best());
        Check.dueThrow("a wrong turn", Check.INDEX, () -> behind511Calls().look(0, 30));
        Check.dueThrow("a wrong kind", Check.ARGUMENT, () -> behind511Calls().order(0, 0, 3, 0, 0));
        Check.dueThrow("a turn before the fork's", Check.STATE, () -> behind511Calls().order(1, 0, 0, 0, 0));
    }

    private static void shipsAreNumbered() {
        MooringTree x = new MooringTree();
        for (int ship : Check.SHIPS) {
            Check.dueThrow("where of ship " + ship + ", not yet added", Check.INDEX, () -> x.where(0, ship, 0));
            Check.dueThrow("cargo of it", Check.INDEX, () -> x.cargo(0, ship, 0));
            Check.dueThrow("an order to it", Check.INDEX, () -> x.order(0, 0, 0, ship, 0));
            Check.due("ship " + ship, ship, x.addShip(0, 0, 1));
            Check.due("where of it", -1, x.where(0, ship, 0));
            Check.due("cargo of it", 1, x.cargo(0, ship, 0));
            Check.due("an order to it", false, x.order(0, 0, 0, ship, 0));
        }
        Check.dueThrow("a ninth ship", Check.STATE, () -> x.addShip(0, 0, 1));
        Check.dueThrow("where of ship 8", Check.INDEX, () -> x.where(0, 8, 0));
        Check.dueThrow("cargo of ship 8", Check.INDEX, () -> x.cargo(0, 8, 0));
        Check.dueThrow("an order to ship 8", Check.INDEX, () -> x.order(0, 0, 0, 8, 0));
    }

    private static void shipsAreApart() {
        MooringTree x = new MooringTree();
        for (int ship : Check.SHIPS) {
            x.addShip(4 * ship, ship % 3, 100 - 13 * ship);
        }
        for (int ship : Check.SHIPS) {
            Check.due("its cargo", 100 - 13 * ship, x.cargo(0, ship, 29));
            if (ship > 0) {
                Check.due("it has not come", -2, x.where(0, ship, 4 * ship - 1));
            }
            Check.due("it has come", -1, x.where(0, ship, 4 * ship));
            x.order(0, 4 * ship, BERTH, ship, 0);
            Check.due("the tide 0 is enough for it", ship % 3 == 0 ? 0 : -1, x.where(0, ship, 4 * ship));
            x.takeAway(0, 4 * ship);
        }
    }

    private static void firstRates() {
        for (int berth : Check.BERTHS) {
            MooringTree x = new MooringTree();
            x.addShip(0, 0, 100);
            x.order(0, 0, BERTH, 0, berth);
            Check.due("unloaded in one turn", 96, x.cargo(0, 0, 0));
            Check.due("unloaded in two turns", 92, x.cargo(0, 0, 1));
            Check.due("the rate at first", 4, x.setRate(berth, 4));
        }
    }

    // ---- promise 1

    private static void noShips() {
        MooringTree x = new MooringTree();
        for (int ship : Check.upTo(-1, 8)) {
            Check.dueThrow("where of " + ship, Check.INDEX, () -> x.where(0, ship, 0));
            Check.dueThrow("cargo of " + ship, Check.INDEX, () -> x.cargo(0, ship, 0));
            for (int kind : Check.KINDS) {
                Check.dueThrow("order to " + ship, Check.INDEX, () -> x.order(0, 0, kind, ship, 0));
            }
        }
        Check.due("failures(0)", 0, x.failures(0));
        for (int turn : Check.TURNS) {
            Check.due("nobody earns or costs", 0, x.look(0, turn));
        }
        Check.due("the first ship", 0, x.addShip(0, 0, 1));
    }

    private static void noForks() {
        MooringTree x = new MooringTree();
        x.addShip(0, 0, 1);
        Check.due("best()", -1, x.best());
        for (int line : Check.upTo(1, 9)) {
            Check.dueThrow("fork of " + line, Check.INDEX, () -> x.fork(line, 0));
            Check.dueThrow("order of " + line, Check.INDEX, () -> x.order(line, 0, 0, 0, 0));
            Check.dueThrow("takeAway of " + line, Check.INDEX, () -> x.takeAway(line, 0));
            Check.dueThrow("orderOf of " + line, Check.INDEX, () -> x.orderOf(line, 0));
            Check.dueThrow("differences of " + line, Check.INDEX, () -> x.differences(line, 0));
            Check.dueThrow("differences to " + line, Check.INDEX, () -> x.differences(0, line));
            Check.dueThrow("where in " + line, Check.INDEX, () -> x.where(line, 0, 0));
            Check.dueThrow("cargo in " + line, Check.INDEX, () -> x.cargo(line, 0, 0));
            Check.dueThrow("failures of " + line, Check.INDEX, () -> x.failures(line));
            Check.dueThrow("look at " + line, Check.INDEX, () -> x.look(line, 0));
            Check.dueThrow("seen of " + line, Check.INDEX, () -> x.seen(line));
            Check.dueThrow("ahead of " + line, Check.INDEX, () -> x.ahead(line));
            Check.dueThrow("mark of " + line, Check.INDEX, () -> x.mark(line));
        }
        Check.due("seen(0)", -1, x.seen(0));
        Check.due("ahead(0)", 0, x.ahead(0));
        Check.due("mark(0)", 50, x.mark(0));
        Check.due("differences(0, 0)", 0, x.differences(0, 0));
        Check.due("the first fork", 1, x.fork(0, 0));
    }

    private static void objectsAreApart() {
        MooringTree used = new MooringTree();
        used.addShip(0, 0, 50);
        used.setRate(0, 9);
        used.setRules(7, 5);
        used.order(0, 0, BERTH, 0, 0);
        used.look(0, 29);
        used.fork(0, 0);
        MooringTree x = new MooringTree();
        Check.due("no fork", -1, x.best());
        Check.due("not seen", -1, x.seen(0));
        Check.due("the first ship", 0, x.addShip(0, 0, 4));
        Check.due("no order", 0, x.orderOf(0, 0));
        Check.due("the fee at first", -30, x.look(0, 29));
        Check.due("the rate at first", 4, x.setRate(0, 4));
        Check.due("the used one has its own ship", 41, used.cargo(0, 0, 0));
        Check.due("and its own rules", 350, used.look(0, 29));
        Check.due("and its own fork", 1, used.best());
    }

    // ---- promise 2

    private static void addedToAllLines() {
        MooringTree x = new MooringTree();
        x.addShip(0, 0, 10);
        x.fork(0, 5);
        x.look(1, 29);
        x.addShip(3, 0, 7);
        for (int line : Check.upTo(0, 1)) {
            Check.due("added behind the fork and the look, it comes", -1, x.where(line, 1, 3));
            Check.due("not sooner", -2, x.where(line, 1, 2));
            Check.due("its cargo before it comes", 7, x.cargo(line, 1, 2));
            Check.due("it costs", -57, x.look(line, 29));
            Check.due("beside the first one", 10, x.cargo(line, 0, 29));
        }
    }

    private static void comes() {
        for (int comes : Check.TURNS) {
            MooringTree x = new MooringTree();
            Check.due("a ship that comes in " + comes, 0, x.addShip(comes, 0, 1));
            for (int turn : Check.TURNS) {
                Check.due("where, turn " + turn, turn < comes ? -2 : -1, x.where(0, 0, turn));
            }
        }
        Check.dueThrows("comes", Check.ARGUMENT, Check.NO_TURNS, comes -> new MooringTree().addShip(comes, 0, 1));
    }

    private static void draught() {
        int[] firstTurn = {0, 1, 2};
        for (int draught : Check.upTo(0, 2)) {
            MooringTree x = new MooringTree();
            Check.due("a ship of the draught " + draught, 0, x.addShip(0, draught, 1));
            for (int turn : Check.upTo(0, 2)) {
                x.order(0, turn, BERTH, 0, 0);
            }
            int berthed = firstTurn[draught];
            Check.due("it can be put in " + berthed, 0, x.where(0, 0, berthed));
            if (berthed > 0) {
                Check.due("and no turn sooner", -1, x.where(0, 0, berthed - 1));
            }
        }
        Check.dueThrows("draught", Check.ARGUMENT, Check.outside(0, 2),
                draught -> new MooringTree().addShip(0, draught, 1));
    }

    private static void cargo() {
        for (int cargo : Check.upTo(1, 100)) {
            MooringTree x = new MooringTree();
            Check.due("a ship with the cargo " + cargo, 0, x.addShip(0, 0, cargo));
            Check.due("all of it", cargo, x.cargo(0, 0, 29));
        }
        Check.dueThrows("cargo", Check.ARGUMENT, Check.outside(1, 100),
                cargo -> new MooringTree().addShip(0, 0, cargo));
    }

    private static void numberOfTheShip() {
        MooringTree x = new MooringTree();
        for (int ship : Check.SHIPS) {
            Check.dueThrow("a refused one has no number", Check.ARGUMENT, () -> x.addShip(0, 0, 0));
            Check.due("ship " + ship, ship, x.addShip(29 - ship, ship % 3, 100 - ship));
            Check.due("it is that one", 100 - ship, x.cargo(0, ship, 0));
        }
    }

    private static void shipOutOfRange() {
        MooringTree x = new MooringTree();
        Check.dueThrows("comes", Check.ARGUMENT, Check.NO_TURNS, wrong -> x.addShip(wrong, 2, 100));
        Check.dueThrows("draught", Check.ARGUMENT, Check.outside(0, 2), wrong -> x.addShip(29, wrong, 100));
        Check.dueThrows("cargo", Check.ARGUMENT, Check.outside(1, 100), wrong -> x.addShip(29, 2, wrong));
        Check.dueThrow("comes and draught", Check.ARGUMENT, () -> x.addShip(-1, 3, 100));
        Check.dueThrow("draught and cargo", Check.ARGUMENT, () -> x.addShip(29, -1, 101));
        Check.dueThrow("comes and cargo", Check.ARGUMENT, () -> x.addShip(30, 2, 0));
        Check.dueThrow("all three", Check.ARGUMENT, () -> x.addShip(30, 3, 101));
        Check.due("none was added", 0, x.addShip(29, 2, 100));
    }

    private static void ninthShip() {
        MooringTree x = new MooringTree();
        for (int ship : Check.upTo(0, 6)) {
            x.addShip(0, 0, 1);
        }
        Check.due("with 7 ships there is room", 7, x.addShip(0, 0, 1));
        Check.dueThrow("a ninth ship", Check.STATE, () -> x.addShip(0, 0, 1));
        Check.dueThrow("another ninth one", Check.STATE, () -> x.addShip(29, 2, 100));
        Check.dueThrows("a ninth one: comes", Check.ARGUMENT, Check.NO_TURNS, wrong -> x.addShip(wrong, 0, 1));
        Check.dueThrows("a ninth one: draught", Check.ARGUMENT, Check.outside(0, 2), wrong -> x.addShip(0, wrong, 1));
        Check.dueThrows("a ninth one: cargo", Check.ARGUMENT, Check.outside(1, 100), wrong -> x.addShip(0, 0, wrong));
        Check.due("eight ships wait", -8, x.look(0, 0));
    }

    // ---- promise 3

    private static void rateForAllLinesAndTurns() {
        MooringTree x = new MooringTree();
        x.addShip(0, 0, 50);
        x.order(0, 0, BERTH, 0, 1);
        x.fork(0, 10);
        Check.due("before", 42, x.cargo(1, 0, 1));
        x.setRate(1, 5);
        Check.due("the teacher's line", 40, x.cargo(0, 0, 1));
        Check.due("the fork", 40, x.cargo(1, 0, 1));
        Check.due("the turn 0", 45, x.cargo(0, 0, 0));
        Check.due("earned with it", 30, x.look(1, 1));
        x.setRate(0, 20);
        x.setRate(2, 20);
        Check.due("other berths do not count", 40, x.cargo(1, 0, 1));
        x.setRate(1, 1);
        Check.due("the turn 29", 20, x.cargo(0, 0, 29));
        Check.due("the turn 29 of the fork", 20, x.cargo(1, 0, 29));
    }

    private static void ratesOfTheBerths() {
        MooringTree x = new MooringTree();
        for (int berth : Check.BERTHS) {
            x.addShip(0, 0, 100);
            x.order(0, berth, BERTH, berth, berth);
            Check.due("the berth " + berth, 4, x.setRate(berth, 10 + berth));
        }
        for (int berth : Check.BERTHS) {
            Check.due("unloaded there", 90 - berth, x.cargo(0, berth, berth));
            Check.due("the rate there", 10 + berth, x.setRate(berth, 0));
        }
        Check.dueThrows("setRate", Check.INDEX, Check.NO_BERTHS, berth -> x.setRate(berth, 0));
    }

    private static void rates() {
        for (int berth : Check.BERTHS) {
            MooringTree x = new MooringTree();
            x.addShip(0, 0, 100);
            x.order(0, 0, BERTH, 0, berth);
            for (int rate : Check.upTo(0, 20)) {
                x.setRate(berth, rate);
                Check.due("unloaded in a turn at " + rate, 100 - rate, x.cargo(0, 0, 0));
                Check.due("earned in a turn at " + rate, 3 * rate, x.look(0, 0));
            }
            x.setRate(berth, 0);
            Check.due("the rate 0 never unloads", 100, x.cargo(0, 0, 29));
        }
        Check.dueThrows("rate", Check.ARGUMENT, Check.outside(0, 20), rate -> new MooringTree().setRate(0, rate));
    }

    private static void rateBefore() {
        for (int berth : Check.BERTHS) {
            MooringTree x = new MooringTree();
            int before = 4;
            for (int rate : Check.upTo(0, 20)) {
                Check.due("the rate before " + rate, before, x.setRate(berth, rate));
                before = rate;
            }
            Check.due("the greatest one", 20, x.setRate(berth, 20));
            Check.due("the same one again", 20, x.setRate(berth, 0));
            Check.due("the least one", 0, x.setRate(berth, 0));
        }
    }

    private static void rateOfNoBerth() {
        MooringTree x = new MooringTree();
        for (int rate : new int[] {0, 20, -1, 21, Integer.MIN_VALUE, Integer.MAX_VALUE}) {
            Check.dueThrows("setRate to " + rate, Check.INDEX, Check.NO_BERTHS, berth -> x.setRate(berth, rate));
        }
        for (int berth : Check.BERTHS) {
            Check.due("the rate stays", 4, x.setRate(berth, 4));
        }
    }

    private static void rateOutOfRange() {
        for (int berth : Check.BERTHS) {
            MooringTree x = new MooringTree();
            Check.dueThrows("rate", Check.ARGUMENT, Check.outside(0, 20), rate -> x.setRate(berth, rate));
            Check.due("the rate stays", 4, x.setRate(berth, 4));
        }
    }

    // ---- promise 4

    private static void rulesForAllLinesAndTurns() {
        MooringTree x = new MooringTree();
        x.addShip(0, 0, 10);
        x.order(0, 4, BERTH, 0, 0);
        x.fork(0, 10);
        Check.due("before", 26, x.look(0, 29));
        x.setRules(7, 2);
        Check.due("the teacher's line", 62, x.look(0, 29));
        Check.due("the fork", 62, x.look(1, 29));
        Check.due("the turn 0", -2, x.look(0, 0));
        Check.due("the turn 4 of the fork", 20, x.look(1, 4));
    }

    private static void prices() {
        MooringTree x = new MooringTree();
        x.addShip(0, 0, 100);
        x.order(0, 0, BERTH, 0, 0);
        for (int price : Check.upTo(0, 100)) {
            x.setRules(price, 100);
            Check.due("earned at " + price, 100 * price, x.look(0, 29));
        }
        Check.dueThrows("price", Check.ARGUMENT, Check.outside(0, 100), price -> x.setRules(price, 0));
    }

    private static void fees() {
        MooringTree x = new MooringTree();
        x.addShip(0, 0, 100);
        for (int fee : Check.upTo(0, 100)) {
            x.setRules(100, fee);
            Check.due("cost at " + fee, -30 * fee, x.look(0, 29));
        }
        Check.dueThrows("fee", Check.ARGUMENT, Check.outside(0, 100), fee -> x.setRules(0, fee));
    }

    private static void rulesOutOfRange() {
        MooringTree x = new MooringTree();
        x.addShip(0, 0, 4);
        x.addShip(0, 0, 4);
        x.order(0, 0, BERTH, 0, 0);
        Check.dueThrows("price", Check.ARGUMENT, Check.outside(0, 100), wrong -> x.setRules(wrong, 50));
        Check.dueThrows("fee", Check.ARGUMENT, Check.outside(0, 100), wrong -> x.setRules(50, wrong));
        Check.dueThrows("both", Check.ARGUMENT, Check.outside(0, 100), wrong -> x.setRules(wrong, wrong));
        Check.due("price and fee stay", 11, x.look(0, 0));
    }
}
