import java.util.ArrayList;
import java.util.HashMap;
import java.util.List;
import java.util.Map;

/** The document said a second time, in another form: whole histories, kept as lists, and no state between calls. */
final class Model {
    record Ship(int comes, int draught, int cargo) {
    }

    record Order(int kind, int ship, int berth, boolean ahead) {
        int told() {
            return kind == 0 ? 0 : kind == 1 ? 100 + 10 * ship + berth : 200 + 10 * ship;
        }
    }

    static final class Line {
        int from = -1;
        int at = 0;
        int seen = -1;
        final Map<Integer, Order> own = new HashMap<>();
    }

    static final class History {
        final int[][] place = new int[30][];
        final int[][] left = new int[30][];
        final int[] earning = new int[30];
        int failures = 0;
    }

    private static final int[] TIDES = {0, 1, 2, 1};
    private final List<Ship> ships = new ArrayList<>();
    private final List<Line> lines = new ArrayList<>(List.of(new Line()));
    private final int[] rates = {4, 4, 4};
    private int price = 3;
    private int fee = 1;

    private static void exists(int number, int count) {
        if (number < 0 || number >= count) {
            throw new IndexOutOfBoundsException();
        }
    }

    private static void inRange(int value, int least, int greatest) {
        if (value < least || value > greatest) {
            throw new IllegalArgumentException();
        }
    }

    private static void possible(boolean now) {
        if (!now) {
            throw new IllegalStateException();
        }
    }

    int addShip(int comes, int draught, int cargo) {
        inRange(comes, 0, 29);
        inRange(draught, 0, 2);
        inRange(cargo, 1, 100);
        possible(ships.size() < 8);
        ships.add(new Ship(comes, draught, cargo));
        return ships.size() - 1;
    }

    int setRate(int berth, int rate) {
        exists(berth, 3);
        inRange(rate, 0, 20);
        int before = rates[berth];
        rates[berth] = rate;
        return before;
    }

    int setRules(int newPrice, int newFee) {
        inRange(newPrice, 0, 100);
        inRange(newFee, 0, 100);
        price = newPrice;
        fee = newFee;
        return 0;
    }

    int fork(int line, int turn) {
        exists(line, lines.size());
        exists(turn, 30);
        possible(lines.size() < 9);
        Line fork = new Line();
        fork.from = line;
        fork.at = turn;
        fork.seen = lines.get(line).seen;
        lines.add(fork);
        return lines.size() - 1;
    }

    boolean order(int line, int turn, int kind, int ship, int berth) {
        exists(line, lines.size());
        exists(turn, 30);
        exists(ship, ships.size());
        exists(berth, 3);
        inRange(kind, 0, 2);
        Line its = lines.get(line);
        possible(turn >= its.at);
        boolean ahead = line > 0 && its.seen > turn;
        its.own.put(turn, new Order(kind, ship, berth, ahead));
        return ahead;
    }

    boolean takeAway(int line, int turn) {
        exists(line, lines.size());
        exists(turn, 30);
        return lines.get(line).own.remove(turn) != null;
    }

    int orderOf(int line, int turn) {
        exists(line, lines.size());
        exists(turn, 30);
        Order found = find(line, turn);
        return found == null ? 0 : found.told();
    }

    private Order find(int line, int turn) {
        Line its = lines.get(line);
        Order own = its.own.get(turn);
        return own != null || its.from < 0 ? own : find(its.from, turn);
    }

    int differences(int one, int other) {
        exists(one, lines.size());
        exists(other, lines.size());
        int turns = 0;
        for (int turn = 0; turn < 30; turn++) {
            turns |= orderOf(one, turn) == orderOf(other, turn) ? 0 : 1 << turn;
        }
        return turns;
    }

    int where(int line, int ship, int turn) {
        exists(line, lines.size());
        exists(ship, ships.size());
        exists(turn, 30);
        return history(line).place[turn][ship];
    }

    int cargo(int line, int ship, int turn) {
        exists(line, lines.size());
        exists(ship, ships.size());
        exists(turn, 30);
        return history(line).left[turn][ship];
    }

    int failures(int line) {
        exists(line, lines.size());
        return history(line).failures;
    }

    int look(int line, int turn) {
        exists(line, lines.size());
        exists(turn, 30);
        Line its = lines.get(line);
        its.seen = its.seen < turn ? turn : its.seen;
        return history(line).earning[turn];
    }

    int seen(int line) {
        exists(line, lines.size());
        return lines.get(line).seen;
    }

    int ahead(int line) {
        exists(line, lines.size());
        int turns = 0;
        for (Map.Entry<Integer, Order> own : lines.get(line).own.entrySet()) {
            turns |= own.getValue().ahead ? 1 << own.getKey() : 0;
        }
        return turns;
    }

    int mark(int line) {
        exists(line, lines.size());
        if (line == 0) {
            return 50;
        }
        if (ahead(line) != 0) {
            return 0;
        }
        int mark = 50 + history(line).earning[29] - history(0).earning[29];
        return mark < 0 ? 0 : mark > 100 ? 100 : mark;
    }

    int best() {
        int best = -1;
        for (int line = lines.size() - 1; line > 0; line--) {
            best = best < 0 || mark(line) >= mark(best) ? line : best;
        }
        return best;
    }

    private History history(int line) {
        History history = new History();
        int count = ships.size();
        int[] place = new int[count];
        int[] left = new int[count];
        for (int ship = 0; ship < count; ship++) {
            place[ship] = -2;
            left[ship] = ships.get(ship).cargo;
        }
        int earning = 0;
        for (int turn = 0; turn < 30; turn++) {
            place = place.clone();
            left = left.clone();
            for (int ship = 0; ship < count; ship++) {
                place[ship] = ships.get(ship).comes == turn ? -1 : place[ship];
            }
            Order order = find(line, turn);
            if (order != null && order.kind != 0) {
                if (possible(order, place, left, TIDES[turn % 4])) {
                    place[order.ship] = order.kind == 1 ? order.berth : -3;
                } else {
                    history.failures |= 1 << turn;
                }
            }
            for (int ship = 0; ship < count; ship++) {
                if (place[ship] >= 0) {
                    int unloaded = Math.min(left[ship], rates[place[ship]]);
                    left[ship] -= unloaded;
                    earning += unloaded * price;
                } else if (place[ship] == -1) {
                    earning -= fee;
                }
            }
            history.place[turn] = place;
            history.left[turn] = left;
            history.earning[turn] = earning;
        }
        return history;
    }

    private boolean possible(Order order, int[] place, int[] left, int tide) {
        if (ships.get(order.ship).draught > tide) {
            return false;
        }
        if (order.kind == 2) {
            return place[order.ship] >= 0 && left[order.ship] == 0;
        }
        for (int other : place) {
            if (other == order.berth) {
                return false;
            }
        }
        return place[order.ship] == -1;
    }
}
