import java.util.Arrays;
import java.util.List;

/** A call of the face, with the range of each of its arguments in a harbour of so many ships and forks. */
record FaceCall(String name, Asking asking, Argument... arguments) {
    interface Asking {
        Object answer(MooringTree x, int[] a);
    }

    /** The least is above the greatest where there is none. */
    record Argument(String what, int least, int greatest, Class<? extends RuntimeException> thrown) {
        boolean takes(int value) {
            return value >= least && value <= greatest;
        }
    }

    static List<FaceCall> all(int ships, int forks) {
        Argument line = new Argument("line", 0, forks, Check.INDEX);
        Argument turn = new Argument("turn", 0, 29, Check.INDEX);
        Argument ship = new Argument("ship", 0, ships - 1, Check.INDEX);
        Argument berth = new Argument("berth", 0, 2, Check.INDEX);
        Argument kind = new Argument("kind", 0, 2, Check.ARGUMENT);
        Argument comes = new Argument("comes", 0, 29, Check.ARGUMENT);
        Argument draught = new Argument("draught", 0, 2, Check.ARGUMENT);
        Argument load = new Argument("cargo", 1, 100, Check.ARGUMENT);
        Argument rate = new Argument("rate", 0, 20, Check.ARGUMENT);
        Argument price = new Argument("price", 0, 100, Check.ARGUMENT);
        Argument fee = new Argument("fee", 0, 100, Check.ARGUMENT);
        return List.of(
                new FaceCall("addShip", (x, a) -> x.addShip(a[0], a[1], a[2]), comes, draught, load),
                new FaceCall("setRate", (x, a) -> x.setRate(a[0], a[1]), berth, rate),
                new FaceCall("setRules", (x, a) -> {
                    x.setRules(a[0], a[1]);
                    return "nothing";
                }, price, fee),
                new FaceCall("fork", (x, a) -> x.fork(a[0], a[1]), line, turn),
                new FaceCall("order", (x, a) -> x.order(a[0], a[1], a[2], a[3], a[4]), line, turn, kind, ship, berth),
                new FaceCall("takeAway", (x, a) -> x.takeAway(a[0], a[1]), line, turn),
                new FaceCall("orderOf", (x, a) -> x.orderOf(a[0], a[1]), line, turn),
                new FaceCall("differences", (x, a) -> x.differences(a[0], a[1]), line, line),
                new FaceCall("where", (x, a) -> x.where(a[0], a[1], a[2]), line, ship, turn),
                new FaceCall("cargo", (x, a) -> x.cargo(a[0], a[1], a[2]), line, ship, turn),
                new FaceCall("failures", (x, a) -> x.failures(a[0]), line),
                new FaceCall("look", (x, a) -> x.look(a[0], a[1]), line, turn),
                new FaceCall("seen", (x, a) -> x.seen(a[0]), line),
                new FaceCall("ahead", (x, a) -> x.ahead(a[0]), line),
                new FaceCall("mark", (x, a) -> x.mark(a[0]), line),
                new FaceCall("best", (x, a) -> x.best()));
    }

    String told(int[] a) {
        return name + Arrays.toString(a);
    }

    int wrongArguments(int[] a) {
        int wrong = 0;
        for (int i = 0; i < arguments.length; i++) {
            wrong += arguments[i].takes(a[i]) ? 0 : 1;
        }
        return wrong;
    }

    boolean hasWrong(int[] a, Class<? extends RuntimeException> thrown) {
        for (int i = 0; i < arguments.length; i++) {
            if (!arguments[i].takes(a[i]) && arguments[i].thrown() == thrown) {
                return true;
            }
        }
        return false;
    }
}
