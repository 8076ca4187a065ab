/** Each call of the face with each mix of least, greatest and wrong arguments: which exception is thrown. */
final class ArgumentsTest {
    private static final int FORKED = 15;
    private static final int[][] HARBOURS = {{0, 0}, {1, 0}, {1, 1}, {3, 2}, {8, 8}};

    private final int ships;
    private final int forks;
    private final int leastThatApply;
    private final int mostThatApply;

    private ArgumentsTest(int ships, int forks, int leastThatApply, int mostThatApply) {
        this.ships = ships;
        this.forks = forks;
        this.leastThatApply = leastThatApply;
        this.mostThatApply = mostThatApply;
    }

    public static void main(String[] args) {
        ranges();
        exceptions();
        Check.end();
    }

    private static void ranges() {
        Check.says("Turns are 0 to 29.", () -> eachValueOf("turn"));
        Check.says("Ships are numbered from 0, at most 8", () -> eachValueOf("ship"));
        Check.says("Berths are 0 to 2", () -> eachValueOf("berth"));
        Check.says("line: a line", () -> eachValueOf("line"));
        Check.says("kind: 0 for nothing, BERTH or LEAVE", () -> eachValueOf("kind"));
        Check.says("comes: 0 to 29", () -> eachValueOf("comes"));
        Check.says("draught: 0 to 2", () -> eachValueOf("draught"));
        Check.says("cargo: 1 to 100", () -> eachValueOf("cargo"));
        Check.says("rate: 0 to 20", () -> eachValueOf("rate"));
        Check.says("price: 0 to 100", () -> eachValueOf("price"));
        Check.says("fee: 0 to 100", () -> eachValueOf("fee"));
    }

    private static void exceptions() {
        Check.says("IllegalArgumentException for another argument out of range", () -> inEachHarbour(0, 0));
        Check.says("IndexOutOfBoundsException is thrown for a turn, ship, berth or line that does not exist,"
                + " IllegalArgumentException for another argument out of range, and IllegalStateException"
                + " if a call is not possible now.", () -> inEachHarbour(1, 1));
        Check.says("If several apply, IndexOutOfBoundsException goes first, then IllegalArgumentException.",
                () -> inEachHarbour(2, 6));
    }

    /** Each value in the range and those outside, in harbours of 0 to 8 ships and forks, where all else is right. */
    private static void eachValueOf(String what) {
        for (int count : Check.upTo(0, 8)) {
            ArgumentsTest test = new ArgumentsTest(count, count, 0, 6);
            for (FaceCall call : FaceCall.all(count, count)) {
                for (int i = 0; i < call.arguments().length; i++) {
                    if (call.arguments()[i].what().equals(what)) {
                        test.askEachValue(call, i);
                    }
                }
            }
        }
    }

    private static void inEachHarbour(int leastThatApply, int mostThatApply) {
        for (int[] harbour : HARBOURS) {
            ArgumentsTest test = new ArgumentsTest(harbour[0], harbour[1], leastThatApply, mostThatApply);
            for (FaceCall call : FaceCall.all(harbour[0], harbour[1])) {
                test.ask(call, new int[call.arguments().length], 0);
            }
        }
    }

    /** Every fork is made at one turn, so that the least turn is too early for an own order and the greatest is not. */
    private MooringTree harbour() {
        MooringTree x = new MooringTree();
        for (int ship = 0; ship < ships; ship++) {
            x.addShip(0, 0, 10);
        }
        for (int fork = 0; fork < forks; fork++) {
            x.fork(0, FORKED);
        }
        return x;
    }

    private void askEachValue(FaceCall call, int asked) {
        int[] a = new int[call.arguments().length];
        for (int i = 0; i < a.length; i++) {
            a[i] = call.arguments()[i].least();
        }
        FaceCall.Argument range = call.arguments()[asked];
        for (int value = range.least(); value <= range.greatest(); value++) {
            a[asked] = value;
            askOnce(call, a);
        }
        for (int value : Check.outside(range.least(), range.greatest())) {
            a[asked] = value;
            askOnce(call, a);
        }
    }

    private void ask(FaceCall call, int[] a, int filled) {
        if (filled == a.length) {
            askOnce(call, a);
            return;
        }
        FaceCall.Argument next = call.arguments()[filled];
        int[] values = {next.least(), next.greatest(), next.least() - 1, next.greatest() + 1,
            Integer.MIN_VALUE, Integer.MAX_VALUE};
        for (int value : values) {
            a[filled] = value;
            ask(call, a, filled + 1);
        }
    }

    private void askOnce(FaceCall call, int[] a) {
        boolean impossible = isImpossible(call, a);
        int apply = call.wrongArguments(a) + (impossible ? 1 : 0);
        if (apply < leastThatApply || apply > mostThatApply) {
            return;
        }
        String answer = Check.answerOf(() -> call.asking().answer(harbour(), a));
        String got = answer.startsWith(Check.THROWS) ? answer : "an answer";
        Check.due(call.told(a) + " with " + ships + " ships, " + forks + " forks", due(call, a, impossible), got);
    }

    private boolean isImpossible(FaceCall call, int[] a) {
        return switch (call.name()) {
            case "addShip" -> ships == 8;
            case "fork" -> forks == 8;
            case "order" -> a[0] > 0 && a[0] <= forks && a[1] >= 0 && a[1] < FORKED;
            default -> false;
        };
    }

    private static String due(FaceCall call, int[] a, boolean impossible) {
        if (call.hasWrong(a, Check.INDEX)) {
            return Check.THROWS + "IndexOutOfBoundsException";
        }
        if (call.hasWrong(a, Check.ARGUMENT)) {
            return Check.THROWS + "IllegalArgumentException";
        }
        return impossible ? Check.THROWS + "IllegalStateException" : "an answer";
    }
}
