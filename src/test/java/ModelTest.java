/** Long mixed runs of all calls, on the class and on the model at once; the runs are the same ones each time. */
final class ModelTest {
    private static final int RUNS = 400;
    private static final int CALLS = 512;

    private final MooringTree x = new MooringTree();
    private final Model model = new Model();
    private final int run;
    private long number;

    private ModelTest(int run) {
        this.run = run;
        this.number = run * 7919L + 17;
    }

    public static void main(String[] args) {
        for (int run = 0; run < RUNS; run++) {
            new ModelTest(run).play();
        }
        Check.end();
    }

    private int upTo(int bound) {
        number = number * 6364136223846793005L + 1442695040888963407L;
        return (int) ((number >>> 33) % bound);
    }

    /** Mostly 0 to below the bound; now and then just outside or far away. */
    private int some(int bound) {
        int odd = upTo(60);
        return odd == 0 ? -1 : odd == 1 ? bound : odd == 2 ? Integer.MIN_VALUE : odd == 3 ? Integer.MAX_VALUE
                : upTo(bound);
    }

    private void play() {
        int shipsSoon = run % 9;
        int forksSoon = run / 9 % 9;
        for (int call = 0; call < CALLS; call++) {
            int kind = call < shipsSoon ? 0 : call < shipsSoon + forksSoon ? 4 : upTo(40);
            one(call, kind);
        }
    }

    private void one(int call, int kind) {
        int line = some(upTo(3) == 0 ? 9 : 3);
        int other = some(9);
        int turn = some(30);
        int ship = some(upTo(4) == 0 ? 8 : 3);
        int berth = some(3);
        int draught = some(3);
        int rate = some(21);
        int price = some(upTo(4) == 0 ? 101 : 4);
        int fee = some(upTo(4) == 0 ? 101 : 4);
        int load = some(101);
        switch (kind) {
            case 0, 1 -> same(call, "addShip " + turn + " " + draught + " " + load,
                    () -> model.addShip(turn, draught, load), () -> x.addShip(turn, draught, load));
            case 2 -> same(call, "setRate " + berth + " " + rate,
                    () -> model.setRate(berth, rate), () -> x.setRate(berth, rate));
            case 3 -> same(call, "setRules " + price + " " + fee,
                    () -> model.setRules(price, fee), () -> {
                        x.setRules(price, fee);
                        return 0;
                    });
            case 4 -> same(call, "fork " + line + " " + turn,
                    () -> model.fork(line, turn), () -> x.fork(line, turn));
            case 5, 6 -> same(call, "takeAway " + line + " " + turn,
                    () -> model.takeAway(line, turn), () -> x.takeAway(line, turn));
            case 7, 8 -> same(call, "orderOf " + line + " " + turn,
                    () -> model.orderOf(line, turn), () -> x.orderOf(line, turn));
            case 9, 10 -> same(call, "differences " + line + " " + other,
                    () -> model.differences(line, other), () -> x.differences(line, other));
            case 11, 12, 13 -> same(call, "where " + line + " " + ship + " " + turn,
                    () -> model.where(line, ship, turn), () -> x.where(line, ship, turn));
            case 14, 15, 16 -> same(call, "cargo " + line + " " + ship + " " + turn,
                    () -> model.cargo(line, ship, turn), () -> x.cargo(line, ship, turn));
            case 17, 18 -> same(call, "failures " + line, () -> model.failures(line), () -> x.failures(line));
            case 19 -> same(call, "look " + line + " " + turn % 12,
                    () -> model.look(line, turn % 12), () -> x.look(line, turn % 12));
            case 20 -> same(call, "look " + line + " " + turn,
                    () -> model.look(line, turn), () -> x.look(line, turn));
            case 21 -> same(call, "seen " + line, () -> model.seen(line), () -> x.seen(line));
            case 22, 23 -> same(call, "ahead " + line, () -> model.ahead(line), () -> x.ahead(line));
            case 24, 25, 26 -> same(call, "mark " + line, () -> model.mark(line), () -> x.mark(line));
            case 27 -> same(call, "best", model::best, x::best);
            default -> {
                int what = upTo(20) == 0 ? some(3) : 1 + upTo(2);
                same(call, "order " + line + " " + turn + " " + what + " " + ship + " " + berth,
                        () -> model.order(line, turn, what, ship, berth),
                        () -> x.order(line, turn, what, ship, berth));
            }
        }
    }

    private void same(int call, String name, Check.Call due, Check.Call got) {
        Check.due("run " + run + ", call " + call + ": " + name, Check.answerOf(due), Check.answerOf(got));
    }
}
