import java.util.ArrayList;
import java.util.List;

/** A call that throws changes nothing: a harbour that refused one answers like one that was not asked. */
final class UnchangedTest {
    interface Refused {
        void call(MooringTree x);
    }

    public static void main(String[] args) {
        smallHarbour();
        fullHarbour();
        Check.end();
    }

    private static void smallHarbour() {
        Refused[] refused = {
            x -> x.addShip(30, 0, 1), x -> x.addShip(0, 3, 1), x -> x.addShip(0, 0, 101),
            x -> x.setRate(3, 9), x -> x.setRate(0, 21), x -> x.setRate(1, -1),
            x -> x.setRules(101, 9), x -> x.setRules(9, 101), x -> x.setRules(-1, 9), x -> x.setRules(9, -1),
            x -> x.fork(3, 0), x -> x.fork(0, 30), x -> x.fork(-1, 0), x -> x.fork(0, -1),
            x -> x.order(3, 8, 1, 1, 1), x -> x.order(2, 30, 1, 1, 1), x -> x.order(2, 8, 3, 1, 1),
            x -> x.order(2, 8, -1, 1, 1), x -> x.order(2, 8, 1, 2, 1), x -> x.order(2, 8, 1, 1, 3),
            x -> x.order(2, 5, 1, 1, 1), x -> x.order(1, 1, 0, 0, 0), x -> x.order(2, 2, 2, 0, 0),
            x -> x.takeAway(3, 6), x -> x.takeAway(0, 30), x -> x.takeAway(0, -1),
            x -> x.orderOf(3, 0), x -> x.orderOf(0, 30),
            x -> x.differences(0, 3), x -> x.differences(3, 0),
            x -> x.where(3, 0, 0), x -> x.where(0, 2, 0), x -> x.where(0, 0, 30),
            x -> x.cargo(3, 0, 0), x -> x.cargo(0, 2, 0), x -> x.cargo(0, 0, 30),
            x -> x.failures(3), x -> x.look(3, 29), x -> x.look(1, 30), x -> x.look(1, -1),
            x -> x.seen(3), x -> x.ahead(3), x -> x.mark(3), x -> x.mark(-1),
        };
        List<String> due = answers(small());
        for (int i = 0; i < refused.length; i++) {
            compare("small harbour, refused call " + i, due, small(), refused[i]);
        }
    }

    private static void fullHarbour() {
        Refused[] refused = {
            x -> x.addShip(0, 0, 1), x -> x.addShip(30, 0, 1), x -> x.fork(0, 0), x -> x.fork(8, 29),
            x -> x.fork(9, 0), x -> x.order(8, 28, 1, 0, 0), x -> x.order(8, 29, 1, 8, 0),
        };
        List<String> due = answers(full());
        for (int i = 0; i < refused.length; i++) {
            compare("full harbour, refused call " + i, due, full(), refused[i]);
        }
    }

    private static void compare(String name, List<String> due, MooringTree x, Refused refused) {
        Check.due(name + " throws", true, Check.answerOf(() -> {
            refused.call(x);
            return "nothing thrown";
        }).startsWith("throws."));
        Check.due(name + " changes nothing", due, answers(x));
    }

    /** Two ships, a fork at 2 and a fork of it at 6; the first was seen and has an order ahead. */
    private static MooringTree small() {
        MooringTree x = new MooringTree();
        x.addShip(0, 0, 30);
        x.addShip(3, 1, 12);
        x.setRate(1, 6);
        x.order(0, 1, MooringTree.BERTH, 0, 0);
        x.order(0, 6, MooringTree.BERTH, 1, 1);
        x.fork(0, 2);
        x.look(1, 5);
        x.order(1, 3, MooringTree.BERTH, 1, 2);
        x.fork(1, 6);
        x.order(2, 9, MooringTree.LEAVE, 1, 0);
        return x;
    }

    private static MooringTree full() {
        MooringTree x = new MooringTree();
        for (int i = 0; i < 8; i++) {
            x.addShip(i, i % 3, 20 + i);
            x.fork(0, 22 + i);
            x.order(0, 2 + 4 * (i % 7), i % 2 + 1, i / 2, i % 3);
        }
        return x;
    }

    /** What can be asked of a harbour, within the 512 calls that are promised; it changes the harbour at its end. */
    private static List<String> answers(MooringTree x) {
        List<String> told = new ArrayList<>();
        for (int line = 0; line <= 9; line++) {
            int l = line;
            told.add(Check.answerOf(() -> x.seen(l)));
            told.add(Check.answerOf(() -> x.ahead(l)));
            told.add(Check.answerOf(() -> x.failures(l)));
            told.add(Check.answerOf(() -> x.mark(l)));
            told.add(Check.answerOf(() -> x.differences(l, 0)));
            for (int turn = 0; turn < 10; turn++) {
                int t = turn;
                told.add(Check.answerOf(() -> x.orderOf(l, t)));
            }
            told.add(Check.answerOf(() -> x.where(l, 0, 29)));
            told.add(Check.answerOf(() -> x.cargo(l, 1, 7)));
            told.add(Check.answerOf(() -> x.look(l, 29)));
            for (int turn = 0; turn < 10; turn++) {
                int t = turn;
                told.add(Check.answerOf(() -> x.takeAway(l, t)));
            }
        }
        told.add(Check.answerOf(x::best));
        for (int berth = 0; berth < 3; berth++) {
            int b = berth;
            told.add(Check.answerOf(() -> x.setRate(b, 0)));
        }
        told.add(Check.answerOf(() -> x.addShip(0, 0, 1)));
        told.add(Check.answerOf(() -> x.fork(0, 0)));
        return told;
    }
}
