import java.util.ArrayList;
import java.util.List;
import java.util.function.Supplier;
import java.util.function.ToIntFunction;

/**
 * "A call that returns an error changes nothing." (CONVENTIONS): every call that a diary refuses is made on one of
 * two diaries that were made alike; whatever is called then answers alike on both. For each sort of later calls
 * the two are made anew, so that no object is used for more than 512 calls.
 */
public final class RefusedTest extends Told {
    private static final int[] PAGES = {LOWEST, -1, 0, 1, 3, 7, 8, HIGHEST};
    private static final int[] WORKS = {LOWEST, -1, 0, 1, 2, 3, 15, 16, HIGHEST};
    private static final int[] ENTRIES = {LOWEST, -1, 0, 1, 5, 10, 11, 150, 151, 300, 301, HIGHEST};
    private static final int[] WHATS = {LOWEST, -1, 0, 4, 5, 6, 7, 8, 10, 11, HIGHEST};
    private static final int[] VALUES = {LOWEST, -1, 0, 999, 1000, HIGHEST};
    private static final int[] STEPS = {LOWEST, -1, 0, 1, 999, 1000, HIGHEST};
    private static final int[] MANY = {LOWEST, -1, 0, 1, 2, 5, 6, HIGHEST};
    private static final int[] SLOTS = {LOWEST, -1, 0, 1, 2, HIGHEST};
    private static final long[] CHARACTERS = {0, 32, 127, 255, 'b', 0x6200, 0x620062, -1, Long.MIN_VALUE, 0x3b623b623b623b62L};

    private record Call(String text, ToIntFunction<FloodDiary> made) { }

    private record Scene(String text, Supplier<FloodDiary> made) { }

    private RefusedTest() { }

    public static void main(String[] args) {
        runAll(RefusedTest.class);
    }

    static void anEmptyDiary() {
        dueNothingChanges(new Scene("empty", FloodDiary::new));
    }

    static void worksAndPagesInHand() {
        dueNothingChanges(new Scene("at work", RefusedTest::atWork));
    }

    static void aFullHistoryAndFullSlots() {
        dueNothingChanges(new Scene("a full history", RefusedTest::withAFullHistory));
    }

    static void aHistoryThatWasUndone() {
        dueNothingChanges(new Scene("undone", () -> {
            FloodDiary x = withAFullHistory();
            x.undo();
            x.undo();
            return x;
        }));
        dueNothingChanges(new Scene("all undone", () -> {
            FloodDiary x = withAFullHistory();
            for (int i = 0; i < 6; i++) {
                x.undo();
            }
            return x;
        }));
    }

    static void sixteenWorks() {
        dueNothingChanges(new Scene("16 works", () -> {
            FloodDiary x = new FloodDiary();
            for (int i = 0; i < 16; i++) {
                x.begin();
            }
            x.write(15, 7, 7);
            x.finish(1);
            x.tear(2);
            return x;
        }));
    }

    static void aFullDiary() {
        dueNothingChanges(new Scene("150 entries", () -> {
            FloodDiary x = written(146);
            x.begin();
            x.finish(1);
            x.begin();
            return x;
        }));
        dueNothingChanges(new Scene("150 entries behind a flood", () -> {
            FloodDiary x = written(149);
            x.save(150);
            x.flood();
            return x;
        }));
    }

    static void aDiaryNearToFull() {
        dueNothingChanges(new Scene("149 entries", () -> {
            FloodDiary x = written(146);
            x.begin();
            x.finish(1);
            return x;
        }));
        dueNothingChanges(new Scene("too many to tear", () -> written(75)));
    }

    static void aDiaryBeyond150Entries() {
        dueNothingChanges(new Scene("151 entries", () -> mended(151)));
        dueNothingChanges(new Scene("300 entries", () -> {
            FloodDiary x = written(149);
            x.save(150);
            x.flood();
            x.mend(999);
            return x;
        }));
    }

    static void behindAFlood() {
        dueNothingChanges(new Scene("behind a flood", () -> {
            FloodDiary x = atWork();
            x.flood();
            return x;
        }));
        dueNothingChanges(new Scene("behind a flood of an empty diary", () -> {
            FloodDiary x = new FloodDiary();
            x.flood();
            return x;
        }));
        dueNothingChanges(new Scene("behind a flood, with the last mark on the shelf", () -> {
            FloodDiary x = atWork();
            x.write(0, 3, 77);
            x.putAway(3);
            x.flood();
            return x;
        }));
    }

    static void amidMending() {
        for (int steps = 1; steps <= 8; steps++) {
            int many = steps;
            dueNothingChanges(new Scene("behind " + steps + " steps", () -> {
                FloodDiary x = atWork();
                x.save(9);
                x.keep(0);
                x.flood();
                x.mend(many);
                x.keep(1);
                return x;
            }));
        }
    }

    static void aFullPad() {
        dueNothingChanges(new Scene("a full pad", () -> {
            FloodDiary x = atWork();
            type(x, "b;w0>0=5;x;m999;b;w1>7=8;p7;f1;b;w2>4=3;s9;t2;b;b;w3>0=999;w4>1=18;p0;p1;b;b;b");
            return x;
        }));
        dueNothingChanges(new Scene("a full pad with a fault", () -> {
            FloodDiary x = atWork();
            type(x, "b;w0>0=5;x;m999;b;w1>7=8;p7;f1;b;w2>4=3;s9;t2;b;b;w3>0=999;w4>1=18;p0;p1;b;b;b;");
            return x;
        }));
    }

    /** Two works, with nine entries between them and a third one, FINISHED; the last entry is not saved. */
    private static FloodDiary atWork() {
        FloodDiary x = made("b;b;w0>3=30;w1>1=10;w0>0=5;s5;b;f2;w0>3=31;p3");
        x.write(1, 1, 11);
        return x;
    }

    private static FloodDiary withAFullHistory() {
        FloodDiary x = atWork();
        x.keep(0);
        x.putAway(1);
        x.begin();
        x.write(3, 7, 70);
        x.keep(1);
        x.tear(3);
        x.save(3);
        x.finish(0);
        type(x, "b;w1>6=6;x;m3");
        return x;
    }

    private static void dueNothingChanges(Scene scene) {
        List<Call> later = laterCalls(scene.made.get().count(1));
        List<Integer> want = later.stream().map(call -> call.made.applyAsInt(scene.made.get())).toList();
        int refused = 0;
        for (Call call : calls()) {
            int answer = call.made.applyAsInt(scene.made.get());
            if (isError(answer)) {
                refused++;
                for (int i = 0; i < later.size(); i++) {
                    FloodDiary x = scene.made.get();
                    call.made.applyAsInt(x);
                    due(scene.text + ", " + call.text + " that answers " + answer + ", then " + later.get(i).text,
                        later.get(i).made.applyAsInt(x), want.get(i));
                }
            }
        }
        check.holds(scene.text + ": it refuses some hundred calls", refused > 100);
    }

    private static boolean isError(int answer) {
        return answer < 0 && answer != NONE;
    }

    private static List<Call> calls() {
        List<Call> calls = new ArrayList<>();
        add(calls, "begin()", FloodDiary::begin);
        add(calls, "carryOut()", FloodDiary::carryOut);
        add(calls, "undo()", FloodDiary::undo);
        for (int work : WORKS) {
            add(calls, "finish(" + work + ")", x -> x.finish(work));
            add(calls, "tear(" + work + ")", x -> x.tear(work));
            for (int page : PAGES) {
                for (int value : VALUES) {
                    add(calls, "write(" + work + ", " + page + ", " + value + ")", x -> x.write(work, page, value));
                }
            }
        }
        for (int page : PAGES) {
            add(calls, "putAway(" + page + ")", x -> x.putAway(page));
            add(calls, "wouldBe(" + page + ")", x -> x.wouldBe(page));
            add(calls, "settled(" + page + ")", x -> x.settled(page));
        }
        for (int entry : ENTRIES) {
            add(calls, "save(" + entry + ")", x -> x.save(entry));
        }
        for (int many : MANY) {
            add(calls, "blur(" + many + ")", x -> x.blur(many));
        }
        for (int steps : STEPS) {
            add(calls, "mend(" + steps + ")", x -> x.mend(steps));
        }
        for (int slot : SLOTS) {
            add(calls, "keep(" + slot + ")", x -> x.keep(slot));
            add(calls, "bring(" + slot + ")", x -> x.bring(slot));
        }
        for (long characters : CHARACTERS) {
            add(calls, "put(" + characters + ")", x -> x.put(characters));
        }
        for (int what : WHATS) {
            add(calls, "count(" + what + ")", x -> x.count(what));
            add(calls, "ofPage(8, " + what + ")", x -> x.ofPage(8, what));
            add(calls, "ofPage(0, " + what + ")", x -> x.ofPage(0, what));
            add(calls, "ofWork(-1, " + what + ")", x -> x.ofWork(-1, what));
            add(calls, "ofWork(0, " + what + ")", x -> x.ofWork(0, what));
            add(calls, "ofEntry(0, " + what + ")", x -> x.ofEntry(0, what));
            add(calls, "ofEntry(1, " + what + ")", x -> x.ofEntry(1, what));
        }
        return calls;
    }

    private static void add(List<Call> calls, String text, ToIntFunction<FloodDiary> made) {
        calls.add(new Call(text, made));
    }

    /** Sorts of later calls, each of some 150 at most, whose answers are told as one number. */
    private static List<Call> laterCalls(int entries) {
        List<Call> calls = new ArrayList<>();
        add(calls, "all that is told", RefusedTest::told);
        for (int first = 1; first <= entries + 1; first += 15) {
            int from = first;
            add(calls, "entries from " + from, x -> toldOfEntries(x, from));
        }
        add(calls, "undo()", RefusedTest::toldByUndo);
        add(calls, "bring(0)", x -> 31 * x.bring(0) + told(x));
        add(calls, "bring(1)", x -> 31 * x.bring(1) + told(x));
        add(calls, "blur(1)", x -> 31 * x.blur(1) + told(x));
        add(calls, "mend(1)", x -> 31 * x.mend(1) + told(x));
        add(calls, "mend(999)", x -> 31 * x.mend(999) + told(x));
        add(calls, "flood()", x -> 31 * x.flood() + told(x));
        add(calls, "carryOut()", x -> 31 * x.carryOut() + told(x));
        add(calls, "put('b')", x -> 31 * x.put('b') + x.fault());
        add(calls, "put('!')", x -> 31 * x.put('!') + x.fault());
        add(calls, "begin()", x -> 31 * x.begin() + told(x));
        add(calls, "write(0, 5, 5)", x -> 31 * x.write(0, 5, 5) + told(x));
        return calls;
    }

    private static int toldOfEntries(FloodDiary x, int from) {
        int all = 1;
        for (int entry = from; entry < from + 15; entry++) {
            for (int what = 0; what <= 7; what++) {
                all = 31 * all + x.ofEntry(entry, what);
            }
        }
        return all;
    }

    private static int toldByUndo(FloodDiary x) {
        int all = 1;
        for (int i = 0; i < 7; i++) {
            all = 31 * all + x.undo();
            all = 31 * all + toldInShort(x);
        }
        return all;
    }

    private static int toldInShort(FloodDiary x) {
        int all = 1;
        for (int what = 0; what <= 10; what++) {
            all = 31 * all + x.count(what);
        }
        for (int page = 0; page < 8; page++) {
            all = 31 * all + x.ofPage(page, 3);
            all = 31 * all + x.ofPage(page, 1);
        }
        return 31 * all + x.stepsToMend();
    }

    private static int told(FloodDiary x) {
        int all = 31 * toldInShort(x) + x.firstNeeded();
        for (int page = 0; page < 8; page++) {
            for (int what = 0; what <= 6; what++) {
                all = 31 * all + x.ofPage(page, what);
            }
            all = 31 * all + x.wouldBe(page);
            all = 31 * all + x.settled(page);
        }
        for (int work = 0; work < 16; work++) {
            for (int what = 0; what <= 4; what++) {
                all = 31 * all + x.ofWork(work, what);
            }
        }
        return 31 * all + x.fault();
    }
}
