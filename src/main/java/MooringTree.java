/** A harbour as a teaching game: a teacher's line of orders, and the forks that pupils make of it. */
public final class MooringTree {
    public static final int BERTH = 1, LEAVE = 2;

    private static final int TURNS = 30;
    private static final int LAST_TURN = TURNS - 1;
    private static final int BERTHS = 3;
    private static final int MOST_SHIPS = 8;
    private static final int MOST_FORKS = 8;
    private static final int DEEPEST_DRAUGHT = 2;
    private static final int MOST_CARGO = 100;
    private static final int HIGHEST_RATE = 20;
    private static final int MOST_MONEY = 100;
    private static final int FIRST_RATE = 4;
    private static final int FIRST_PRICE = 3;
    private static final int FIRST_FEE = 1;

    private static final int WAITS = -1;
    private static final int NOT_COME = -2;
    private static final int LEFT = -3;

    private static final int NOTHING = 0;
    private static final int UNSEEN = -1;
    private static final int TEACHERS_MARK = 50;
    private static final int BEST_MARK = 100;
    private static final int NO_FORK = -1;

    private final Harbour harbour = new Harbour();
    private final Line teachers = new Line(null, 0);
    private final Line[] lines = new Line[1 + MOST_FORKS];
    private int forks = 0;

    public MooringTree() {
        lines[0] = teachers;
    }

    // ---- the world

    public int addShip(int comes, int draught, int cargo)
            throws IllegalArgumentException, IllegalStateException {
        if (!isTurn(comes)) {
            throw new IllegalArgumentException("comes is out of range");
        }
        if (draught < 0 || draught > DEEPEST_DRAUGHT) {
            throw new IllegalArgumentException("draught is out of range");
        }
        if (cargo < 1 || cargo > MOST_CARGO) {
            throw new IllegalArgumentException("cargo is out of range");
        }
        if (harbour.shipCount >= MOST_SHIPS) {
            throw new IllegalStateException("there are 8 ships");
        }
        return harbour.admit(new Ship(comes, draught, cargo));
    }

    public int setRate(int berth, int rate) throws IndexOutOfBoundsException, IllegalArgumentException {
        checkBerth(berth);
        if (rate < 0 || rate > HIGHEST_RATE) {
            throw new IllegalArgumentException("rate is out of range");
        }
        int before = harbour.rates[berth];
        harbour.rates[berth] = rate;
        return before;
    }

    public void setRules(int price, int fee) throws IllegalArgumentException {
        if (price < 0 || price > MOST_MONEY) {
            throw new IllegalArgumentException("price is out of range");
        }
        if (fee < 0 || fee > MOST_MONEY) {
            throw new IllegalArgumentException("fee is out of range");
        }
        harbour.price = price;
        harbour.fee = fee;
    }

    // ---- lines and orders

    public int fork(int line, int turn) throws IndexOutOfBoundsException, IllegalStateException {
        Line madeOf = lineNumbered(line);
        checkTurn(turn);
        if (forks >= MOST_FORKS) {
            throw new IllegalStateException("there are 8 forks");
        }
        forks++;
        lines[forks] = new Line(madeOf, turn);
        return forks;
    }

    public boolean order(int line, int turn, int kind, int ship, int berth)
            throws IndexOutOfBoundsException, IllegalArgumentException, IllegalStateException {
        Line ordered = lineNumbered(line);
        checkTurn(turn);
        shipNumbered(ship);
        checkBerth(berth);
        if (kind != NOTHING && kind != BERTH && kind != LEAVE) {
            throw new IllegalArgumentException("kind is out of range");
        }
        if (turn < ordered.firstTurn) {
            throw new IllegalStateException("the turn is earlier than that of the fork");
        }
        return ordered.give(turn, codeOf(kind, ship, berth));
    }

    public boolean takeAway(int line, int turn) throws IndexOutOfBoundsException {
        Line ordered = lineNumbered(line);
        checkTurn(turn);
        return ordered.drop(turn);
    }

    public int orderOf(int line, int turn) throws IndexOutOfBoundsException {
        Line asked = lineNumbered(line);
        checkTurn(turn);
        return asked.orderFor(turn);
    }

    public int differences(int one, int other) throws IndexOutOfBoundsException {
        Line first = lineNumbered(one);
        Line second = lineNumbered(other);
        int turns = 0;
        for (int turn = 0; turn < TURNS; turn++) {
            if (first.orderFor(turn) != second.orderFor(turn)) {
                turns |= 1 << turn;
            }
        }
        return turns;
    }

    // ---- playing

    public int where(int line, int ship, int turn) throws IndexOutOfBoundsException {
        return shipBehind(line, ship, turn).place;
    }

    public int cargo(int line, int ship, int turn) throws IndexOutOfBoundsException {
        return shipBehind(line, ship, turn).left;
    }

    public int failures(int line) throws IndexOutOfBoundsException {
        Line played = lineNumbered(line);
        harbour.play(played, LAST_TURN);
        return harbour.failedTurns;
    }

    // ---- looks and marks

    public int look(int line, int turn) throws IndexOutOfBoundsException {
        Line looked = lineNumbered(line);
        checkTurn(turn);
        looked.seen = Math.max(looked.seen, turn);
        return earningOf(looked, turn);
    }

    public int seen(int line) throws IndexOutOfBoundsException {
        return lineNumbered(line).seen;
    }

    public int ahead(int line) throws IndexOutOfBoundsException {
        return lineNumbered(line).aheadTurns;
    }

    public int mark(int line) throws IndexOutOfBoundsException {
        Line marked = lineNumbered(line);
        return markAgainst(marked, earningOf(teachers, LAST_TURN));
    }

    public int best() {
        int teachersEarning = earningOf(teachers, LAST_TURN);
        int best = NO_FORK;
        int bestMark = -1;
        for (int number = 1; number < lines.length; number++) {
            Line fork = lines[number];
            int mark = fork == null ? -1 : markAgainst(fork, teachersEarning);
            if (mark > bestMark) {
                best = number;
                bestMark = mark;
            }
        }
        return best;
    }

    // ---- what the calls share

    private Ship shipBehind(int line, int ship, int turn) {
        Line played = lineNumbered(line);
        Ship asked = shipNumbered(ship);
        checkTurn(turn);
        harbour.play(played, turn);
        return asked;
    }

    private int earningOf(Line line, int turn) {
        harbour.play(line, turn);
        return harbour.earned;
    }

    private int markAgainst(Line line, int teachersEarning) {
        if (line.aheadTurns != 0) {
            return 0;
        }
        int mark = TEACHERS_MARK + earningOf(line, LAST_TURN) - teachersEarning;
        return Math.max(0, Math.min(BEST_MARK, mark));
    }

    /** What orderOf() tells of an order; orders are kept in this form, so that alike ones are equal. */
    private static int codeOf(int kind, int ship, int berth) {
        if (kind == NOTHING) {
            return NOTHING;
        }
        return 100 * kind + 10 * ship + (kind == BERTH ? berth : 0);
    }

    private Line lineNumbered(int number) {
        Line line = number >= 0 && number < lines.length ? lines[number] : null;
        if (line == null) {
            throw new IndexOutOfBoundsException("there is no such line");
        }
        return line;
    }

    private Ship shipNumbered(int number) {
        Ship ship = harbour.shipOrNull(number);
        if (ship == null) {
            throw new IndexOutOfBoundsException("there is no such ship");
        }
        return ship;
    }

    private static boolean isTurn(int turn) {
        return turn >= 0 && turn < TURNS;
    }

    private static void checkTurn(int turn) {
        if (!isTurn(turn)) {
            throw new IndexOutOfBoundsException("there is no such turn");
        }
    }

    private static boolean isBerth(int place) {
        return place >= 0 && place < BERTHS;
    }

    private static void checkBerth(int berth) {
        if (!isBerth(berth)) {
            throw new IndexOutOfBoundsException("there is no such berth");
        }
    }

    /** The teacher's line, which is made of none, or a fork with the orders that differ. */
    private static final class Line {
        private final Line madeOf;
        private final int firstTurn;
        private final int[] orders = new int[TURNS];
        private int ownTurns = 0;
        private int aheadTurns = 0;
        private int seen;

        private Line(Line madeOf, int firstTurn) {
            this.madeOf = madeOf;
            this.firstTurn = firstTurn;
            this.seen = madeOf == null ? UNSEEN : madeOf.seen;
        }

        private boolean hasOwn(int turn) {
            return (ownTurns & (1 << turn)) != 0;
        }

        private int orderFor(int turn) {
            for (Line line = this; line != null; line = line.madeOf) {
                if (line.hasOwn(turn)) {
                    return line.orders[turn];
                }
            }
            return NOTHING;
        }

        private boolean give(int turn, int code) {
            // What was seen never shrinks, so an order that looked ahead is only ever
            // replaced by one that does too: no bit has to be cleared here.
            boolean looksAhead = madeOf != null && seen > turn;
            if (looksAhead) {
                aheadTurns |= 1 << turn;
            }
            ownTurns |= 1 << turn;
            orders[turn] = code;
            return looksAhead;
        }

        private boolean drop(int turn) {
            boolean had = hasOwn(turn);
            ownTurns &= ~(1 << turn);
            aheadTurns &= ~(1 << turn);
            return had;
        }
    }

    /** A ship, with its stand in the play that the harbour ran last. */
    private static final class Ship {
        private final int comes;
        private final int draught;
        private final int fullCargo;
        private int place = NOT_COME;
        private int left;

        private Ship(int comes, int draught, int fullCargo) {
            this.comes = comes;
            this.draught = draught;
            this.fullCargo = fullCargo;
            this.left = fullCargo;
        }

        private void startAfresh() {
            place = NOT_COME;
            left = fullCargo;
        }

        private int unload(int most) {
            int unloaded = Math.min(most, left);
            left -= unloaded;
            return unloaded;
        }
    }

    /**
     * The world of all lines. Every question plays its line anew from the turn 0, because
     * ships, rates, rules and the orders of the lines below may have changed in between.
     */
    private static final class Harbour {
        private final Ship[] ships = new Ship[MOST_SHIPS];
        private int shipCount = 0;
        private final int[] rates = {FIRST_RATE, FIRST_RATE, FIRST_RATE};
        private int price = FIRST_PRICE;
        private int fee = FIRST_FEE;
        private int earned = 0;
        private int failedTurns = 0;

        private int admit(Ship ship) {
            int number = shipCount;
            if (number < ships.length) {
                ships[number] = ship;
                shipCount++;
            }
            return number;
        }

        private Ship shipOrNull(int number) {
            return number >= 0 && number < ships.length ? ships[number] : null;
        }

        private void play(Line line, int lastTurn) {
            earned = 0;
            failedTurns = 0;
            for (Ship ship : ships) {
                if (ship != null) {
                    ship.startAfresh();
                }
            }
            for (int turn = 0; turn <= lastTurn && turn < TURNS; turn++) {
                passTurn(turn, line.orderFor(turn));
            }
        }

        private void passTurn(int turn, int order) {
            for (Ship ship : ships) {
                if (ship != null && ship.comes == turn) {
                    ship.place = WAITS;
                }
            }
            if (order != NOTHING && !carryOut(order, tideOf(turn))) {
                failedTurns |= 1 << turn;
            }
            for (Ship ship : ships) {
                if (ship != null) {
                    earned += earningInTurn(ship);
                }
            }
        }

        private static int tideOf(int turn) {
            int hour = turn & 3;
            return hour == 3 ? 1 : hour;
        }

        private boolean carryOut(int order, int tide) {
            Ship ship = shipOrNull(order / 10 % 10);
            if (ship == null || tide < ship.draught) {
                return false;
            }
            return order / 100 == BERTH ? putToBerth(ship, order % 10) : letLeave(ship);
        }

        private boolean putToBerth(Ship ship, int berth) {
            if (ship.place != WAITS || isTaken(berth)) {
                return false;
            }
            ship.place = berth;
            return true;
        }

        private boolean letLeave(Ship ship) {
            if (!isBerth(ship.place) || ship.left > 0) {
                return false;
            }
            ship.place = LEFT;
            return true;
        }

        private boolean isTaken(int berth) {
            for (Ship ship : ships) {
                if (ship != null && ship.place == berth) {
                    return true;
                }
            }
            return false;
        }

        private int earningInTurn(Ship ship) {
            if (isBerth(ship.place)) {
                return price * ship.unload(rates[ship.place]);
            }
            return ship.place == WAITS ? -fee : 0;
        }
    }
}
