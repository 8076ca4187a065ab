import java.util.ArrayList;
import java.util.List;
import java.util.function.Consumer;
import java.util.function.Function;
import java.util.function.Supplier;

/** A harbour that refused a call gives every answer that one gives which was not asked. */
final class UnchangedTest {
    /** Fewer than 512, as the harbour was made with calls too. */
    private static final int QUESTIONS_OF_ONE_HARBOUR = 400;

    private final Supplier<MooringTree> harbour;
    private final List<Function<MooringTree, Object>> questions = new ArrayList<>();
    private final List<String> due;

    private UnchangedTest(int ships, int forks, Supplier<MooringTree> harbour) {
        this.harbour = harbour;
        for (int line = 0; line <= forks; line++) {
            askLine(line, forks);
            for (int ship = 0; ship < ships; ship++) {
                askShip(line, ship);
            }
        }
        questions.add(MooringTree::best);
        askByChanging(ships, forks);
        this.due = answersBehind(x -> { });
    }

    public static void main(String[] args) {
        Check.says("A call that throws an exception changes nothing.", UnchangedTest::wrongArguments);
        Check.says("Throws IllegalStateException if the turn is earlier than that at which the line was forked",
                UnchangedTest::earlyOrders);
        Check.says("Throws IllegalStateException if there are 8 ships", UnchangedTest::ninthShip);
        Check.says("Throws IllegalStateException if there are 8 forks", UnchangedTest::ninthFork);
        Check.says("a turn, ship, berth or line that does not exist", UnchangedTest::wrongCallsOnANewObject);
        Check.end();
    }

    // ---- the questions

    private void askLine(int line, int forks) {
        questions.add(x -> x.seen(line));
        questions.add(x -> x.ahead(line));
        questions.add(x -> x.failures(line));
        questions.add(x -> x.mark(line));
        for (int other = 0; other <= forks; other++) {
            int o = other;
            questions.add(x -> x.differences(line, o));
        }
        for (int turn : Check.TURNS) {
            questions.add(x -> x.orderOf(line, turn));
        }
    }

    private void askShip(int line, int ship) {
        for (int turn : Check.TURNS) {
            questions.add(x -> x.where(line, ship, turn));
            questions.add(x -> x.cargo(line, ship, turn));
        }
    }

    /** What only a call tells that changes something itself: they come last. */
    private void askByChanging(int ships, int forks) {
        for (int line = 0; line <= forks; line++) {
            int l = line;
            for (int turn : Check.TURNS) {
                questions.add(x -> x.look(l, turn));
                questions.add(x -> x.takeAway(l, turn));
                if (ships > 0) {
                    questions.add(x -> x.order(l, turn, 0, 0, 0));
                }
            }
        }
        for (int berth : Check.BERTHS) {
            questions.add(x -> x.setRate(berth, 0));
        }
        questions.add(x -> x.addShip(0, 0, 1));
        questions.add(x -> x.fork(0, 0));
    }

    private List<String> answersBehind(Consumer<MooringTree> call) {
        List<String> answers = new ArrayList<>();
        for (int from = 0; from < questions.size(); from += QUESTIONS_OF_ONE_HARBOUR) {
            MooringTree x = harbour.get();
            answerOfRefused(call, x);
            int to = Math.min(questions.size(), from + QUESTIONS_OF_ONE_HARBOUR);
            for (Function<MooringTree, Object> question : questions.subList(from, to)) {
                answers.add(Check.answerOf(() -> question.apply(x)));
            }
        }
        return answers;
    }

    private static void answerOfRefused(Consumer<MooringTree> call, MooringTree x) {
        Check.answerOf(() -> {
            call.accept(x);
            return "none";
        });
    }

    private void refuses(String name, Class<? extends RuntimeException> thrown, Consumer<MooringTree> call) {
        Check.dueThrow(name, thrown, () -> call.accept(harbour.get()));
        Check.due("every answer behind " + name + " as before it", due, answersBehind(call));
    }

    // ---- the harbours

    /** Two ships, a fork at 2 and a fork of it at 6; the first was seen and has an order ahead. */
    private static MooringTree small() {
        MooringTree x = new MooringTree();
        x.addShip(0, 0, 30);
        x.addShip(3, 1, 12);
        x.setRate(1, 6);
        x.setRules(4, 2);
        x.order(0, 1, MooringTree.BERTH, 0, 0);
        x.order(0, 6, MooringTree.BERTH, 1, 1);
        x.fork(0, 2);
        x.look(1, 5);
        x.order(1, 3, MooringTree.BERTH, 1, 2);
        x.fork(1, 6);
        x.order(2, 9, MooringTree.LEAVE, 1, 0);
        return x;
    }

    private static MooringTree full() {
        MooringTree x = new MooringTree();
        for (int i = 0; i < 8; i++) {
            x.addShip(i, i % 3, 20 + i);
            x.fork(i / 2, 22 + i);
            x.order(0, 2 + 4 * (i % 7), i % 2 + 1, i / 2, i % 3);
            x.order(i + 1, 22 + i, MooringTree.BERTH, i, i % 3);
        }
        return x;
    }

    // ---- the refused calls

    private static void wrongArguments() {
        UnchangedTest test = new UnchangedTest(2, 2, UnchangedTest::small);
        for (FaceCall call : FaceCall.all(2, 2)) {
            for (int i = 0; i < call.arguments().length; i++) {
                FaceCall.Argument wrong = call.arguments()[i];
                for (int value : new int[] {wrong.least() - 1, wrong.greatest() + 1, Integer.MIN_VALUE,
                    Integer.MAX_VALUE}) {
                    test.refuseWith(call, i, value);
                }
            }
        }
    }

    /** The other arguments are the greatest ones, which are far from what the harbour has. */
    private void refuseWith(FaceCall call, int wrong, int value) {
        int[] a = new int[call.arguments().length];
        for (int i = 0; i < a.length; i++) {
            a[i] = i == wrong ? value : call.arguments()[i].greatest();
        }
        refuses(call.told(a), call.arguments()[wrong].thrown(), x -> call.asking().answer(x, a));
    }

    private static void earlyOrders() {
        UnchangedTest test = new UnchangedTest(2, 2, UnchangedTest::small);
        for (int kind : Check.KINDS) {
            test.refuses("the turn before the fork 1", Check.STATE, x -> x.order(1, 1, kind, 1, 2));
            test.refuses("the turn before the fork 2", Check.STATE, x -> x.order(2, 5, kind, 1, 2));
            test.refuses("the turn 0", Check.STATE, x -> x.order(2, 0, kind, 1, 2));
            test.refuses("a turn that looks ahead", Check.STATE, x -> x.order(2, 3, kind, 1, 2));
            test.refuses("too early, with a wrong kind", Check.ARGUMENT, x -> x.order(2, 5, kind + 3, 1, 2));
        }
    }

    private static void ninthShip() {
        UnchangedTest test = new UnchangedTest(8, 8, UnchangedTest::full);
        test.refuses("a ninth ship", Check.STATE, x -> x.addShip(0, 0, 1));
        test.refuses("another ninth ship", Check.STATE, x -> x.addShip(29, 2, 100));
        test.refuses("a wrong ninth ship", Check.ARGUMENT, x -> x.addShip(30, 2, 100));
        test.refuses("an order to a ninth ship", Check.INDEX, x -> x.order(8, 29, MooringTree.BERTH, 8, 0));
    }

    private static void ninthFork() {
        UnchangedTest test = new UnchangedTest(8, 8, UnchangedTest::full);
        test.refuses("a ninth fork", Check.STATE, x -> x.fork(0, 0));
        test.refuses("a ninth fork, of the eighth", Check.STATE, x -> x.fork(8, 29));
        test.refuses("a ninth fork, of a ninth", Check.INDEX, x -> x.fork(9, 29));
        test.refuses("an order of a ninth fork", Check.INDEX, x -> x.order(9, 29, MooringTree.BERTH, 0, 0));
        test.refuses("a look at a ninth fork", Check.INDEX, x -> x.look(9, 29));
    }

    private static void wrongCallsOnANewObject() {
        UnchangedTest test = new UnchangedTest(0, 0, MooringTree::new);
        test.refuses("an order to no ship", Check.INDEX, x -> x.order(0, 0, MooringTree.BERTH, 0, 0));
        test.refuses("an order of nothing to no ship", Check.INDEX, x -> x.order(0, 0, 0, 0, 0));
        test.refuses("a fork of no line", Check.INDEX, x -> x.fork(1, 0));
        test.refuses("a look at no fork", Check.INDEX, x -> x.look(1, 29));
        test.refuses("a look in no turn", Check.INDEX, x -> x.look(0, 30));
        test.refuses("a ship without cargo", Check.ARGUMENT, x -> x.addShip(0, 0, 0));
        test.refuses("a rate that is too high", Check.ARGUMENT, x -> x.setRate(0, 21));
        test.refuses("a rule that is too high", Check.ARGUMENT, x -> x.setRules(0, 101));
    }
}
