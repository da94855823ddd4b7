import java.util.ArrayList;
import java.util.List;

/** Every run of a few calls out of a small choice, behind some beginnings: FloodDiary answers as PlainDiary does. */
public final class EveryRunTest {
    private static final String[] ORDERS = {
        "b", "w0>0=5", "w0>1=6", "w1>0=7", "f0", "t1", "s", "p0", "x", "B1", "B2", "m1", "m3", "u", "k", "r"};
    private static final String[] BEHIND_A_FLOOD = {"x", "B1", "B2", "B3", "m1", "m2", "m5", "m999", "u", "w0>0=5"};
    private static final String[] BEGINNINGS = {
        "",
        "b w0>0=1 w0>0=2 p0",
        "b b w0>0=1 w1>1=2 s w0>0=3 f0 b"};
    private static final String[] FLOODED = {
        "b w0>0=1 w0>1=2 w0>0=3 p1 t0 s x",
        "b b w0>0=1 w1>1=2 p0 w1>2=3 f0 w1>0=4 w1>1=5 p2 x",
        "b w0>0=1 f0 b w1>0=2 f1 b w2>0=3 f2 x m1",
        "b b w0>0=1 w1>1=2 w0>0=3 w1>1=4 s x m6"};

    private final Check check = new Check();
    private int runs = 0;

    private EveryRunTest() { }

    public static void main(String[] args) {
        new EveryRunTest().start();
    }

    private void start() {
        for (String beginning : BEGINNINGS) {
            every(begun(beginning), ORDERS, 4);
        }
        for (String beginning : FLOODED) {
            every(begun(beginning), BEHIND_A_FLOOD, 4);
        }
        System.out.println(runs + " runs");
        check.end();
    }

    private static List<String> begun(String beginning) {
        return beginning.isEmpty() ? new ArrayList<>() : new ArrayList<>(List.of(beginning.split(" ")));
    }

    private void every(List<String> run, String[] choice, int more) {
        if (more == 0) {
            compare(run);
            return;
        }
        for (String order : choice) {
            run.add(order);
            every(run, choice, more - 1);
            run.remove(run.size() - 1);
        }
    }

    private void compare(List<String> run) {
        runs++;
        check.about("the run " + String.join(" ", run));
        FloodDiary diary = new FloodDiary();
        PlainDiary plain = new PlainDiary();
        for (String order : run) {
            both(diary, plain, order);
        }
        compareAll(diary, plain);
    }

    /** Makes the call that an order of one sign and its numbers tells, on both. */
    private void both(FloodDiary d, PlainDiary p, String order) {
        String[] texts = order.substring(1).split("[>=]");
        int n = texts[0].isEmpty() ? 0 : Integer.parseInt(texts[0]);
        switch (order.charAt(0)) {
            case 'b' -> check.due(order, d.begin(), p.begin());
            case 'w' -> {
                int page = Integer.parseInt(texts[1]), value = Integer.parseInt(texts[2]);
                check.due(order, d.write(n, page, value), p.write(n, page, value));
            }
            case 'f' -> check.due(order, d.finish(n), p.finish(n));
            case 't' -> check.due(order, d.tear(n), p.tear(n));
            case 's' -> check.due(order, d.save(d.count(1)), p.save(p.count(1)));
            case 'p' -> check.due(order, d.putAway(n), p.putAway(n));
            case 'x' -> check.due(order, d.flood(), p.flood());
            case 'B' -> check.due(order, d.blur(n), p.blur(n));
            case 'm' -> check.due(order, d.mend(n), p.mend(n));
            case 'u' -> check.due(order, d.undo(), p.undo());
            case 'k' -> check.due(order, d.keep(n), p.keep(n));
            case 'r' -> check.due(order, d.bring(n), p.bring(n));
            default -> check.holds(order + " is an order", false);
        }
    }

    private void compareAll(FloodDiary d, PlainDiary p) {
        for (int what = 0; what <= 10; what++) {
            check.due("count(" + what + ")", d.count(what), p.count(what));
        }
        for (int page = 0; page < 3; page++) {
            for (int what = 0; what <= 6; what++) {
                check.due("ofPage(" + page + ", " + what + ")", d.ofPage(page, what), p.ofPage(page, what));
            }
            check.due("wouldBe(" + page + ")", d.wouldBe(page), p.wouldBe(page));
            check.due("settled(" + page + ")", d.settled(page), p.settled(page));
        }
        for (int work = 0; work <= p.count(0); work++) {
            for (int what = 0; what <= 4; what++) {
                check.due("ofWork(" + work + ", " + what + ")", d.ofWork(work, what), p.ofWork(work, what));
            }
        }
        for (int entry = 1; entry <= p.count(1) + 1; entry++) {
            for (int what = 0; what <= 7; what++) {
                check.due("ofEntry(" + entry + ", " + what + ")", d.ofEntry(entry, what), p.ofEntry(entry, what));
            }
        }
        check.due("stepsToMend()", d.stepsToMend(), p.stepsToMend());
        check.due("firstNeeded()", d.firstNeeded(), p.firstNeeded());
    }
}
