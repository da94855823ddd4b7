import java.util.Random;

/** Makes the same calls on FloodDiary and on PlainDiary, and compares every answer. */
public final class ModelTest {
    private static final int RUNS = 160, CALLS = 512;
    private static final int[] ODD = {-1, 8, 16, 1000, -7, Integer.MAX_VALUE, Integer.MIN_VALUE, 1 << 30};
    private static final String CHARACTERS = "bwftpsxm;>=0123456789;;;bwf>=b~!";

    private final Check check;
    private final Random random;
    private final FloodDiary diary = new FloodDiary();
    private final PlainDiary plain = new PlainDiary();
    private final int temper;
    private int calls = 0;

    private ModelTest(Check check, int seed) {
        this.check = check;
        this.random = new Random(seed);
        this.temper = seed % 4;
        check.about("seed " + seed);
    }

    public static void main(String[] args) {
        Check check = new Check();
        for (int seed = 0; seed < RUNS && check.wrong() == 0; seed++) {
            new ModelTest(check, seed).run();
        }
        check.end();
    }

    private void run() {
        while (calls < CALLS && check.wrong() == 0) {
            change();
            // The second diary is slow with many entries.
            if (plain.count(1) < 60 || below(5) == 0) {
                compareAll();
            }
        }
    }

    private void due(String call, long got, long want) {
        check.due("call " + calls + " " + call, got, want);
    }

    private int below(int bound) {
        return random.nextInt(bound);
    }

    private int some(int bound) {
        return below(40) == 0 ? ODD[below(ODD.length)] : below(Math.max(1, bound));
    }

    /** The works of late, so that open ones are met more often. */
    private int work() {
        int works = plain.count(0);
        return below(3) == 0 ? some(works + 1) : some(works) | (below(2) == 0 ? 1 : 0);
    }

    private int page() {
        return temper == 1 ? some(2) : some(8);
    }

    private void change() {
        calls++;
        boolean broken = plain.count(3) == 1;
        int kind = below(100);
        if (broken && below(3) != 0) {
            int steps = below(4) == 0 ? 1 + below(999) : 1 + below(6);
            int many = 1 + below(5);
            int choice = below(10);
            if (choice < 5) {
                due("mend " + steps, diary.mend(steps), plain.mend(steps));
            } else if (choice < 8) {
                due("blur " + many, diary.blur(many), plain.blur(many));
            } else {
                due("flood", diary.flood(), plain.flood());
            }
            return;
        }
        if (temper == 3 && !broken && plain.count(1) < 148 && kind != 0) {
            grow();
        } else if (kind < 8) {
            due("begin", diary.begin(), plain.begin());
        } else if (kind < (temper == 2 ? 78 : 50)) {
            int work = work(), page = page(), value = below(30) == 0 ? ODD[below(ODD.length)] : below(1000);
            due("write " + work + " " + page + " " + value,
                diary.write(work, page, value), plain.write(work, page, value));
        } else {
            rarerChange(kind % 25);
        }
    }

    /** Comes near the limit of entries soon, with few works, so that mending goes beyond it. */
    private void grow() {
        int open = plain.count(8);
        int entries = plain.count(1);
        if (open == 0 && plain.count(0) == 16) {
            due("undo", diary.undo(), plain.undo());
        } else if (open == 0 || below(40) == 0) {
            due("begin", diary.begin(), plain.begin());
        } else if (below(8) == 0 && entries > 0) {
            due("save " + entries, diary.save(entries), plain.save(entries));
        } else {
            int work = below(2) == 0 ? Integer.numberOfTrailingZeros(open) : 31 - Integer.numberOfLeadingZeros(open);
            int page = below(8), value = below(1000);
            due("write " + work + " " + page, diary.write(work, page, value), plain.write(work, page, value));
        }
    }

    private void rarerChange(int kind) {
        int work = work(), page = page(), slot = some(2);
        int steps = below(3) == 0 ? some(3) : some(1001);
        int entry = below(3) == 0 ? some(302) : plain.count(1) - below(4);
        switch (kind) {
            case 0, 1 -> due("finish " + work, diary.finish(work), plain.finish(work));
            case 2, 3 -> due("tear " + work, diary.tear(work), plain.tear(work));
            case 4, 5, 6 -> due("save " + entry, diary.save(entry), plain.save(entry));
            case 7, 8, 9 -> due("putAway " + page, diary.putAway(page), plain.putAway(page));
            case 10 -> due("flood", diary.flood(), plain.flood());
            case 11 -> due("blur " + steps, diary.blur(steps), plain.blur(steps));
            case 12 -> due("mend " + steps, diary.mend(steps), plain.mend(steps));
            case 13, 14, 15, 16 -> putSome();
            case 17 -> due("wipe", diary.wipe(), plain.wipe());
            case 18, 19 -> due("carryOut", diary.carryOut(), plain.carryOut());
            case 20, 21 -> due("undo", diary.undo(), plain.undo());
            case 22 -> due("keep " + slot, diary.keep(slot), plain.keep(slot));
            case 23 -> due("bring " + slot, diary.bring(slot), plain.bring(slot));
            default -> putOrders();
        }
    }

    private void putSome() {
        long characters = 0;
        int many = below(9);
        for (int i = 0; i < many; i++) {
            characters = characters << 8 | CHARACTERS.charAt(below(CHARACTERS.length()));
        }
        if (below(8) == 0) {
            characters = random.nextLong() >>> below(64);
        }
        due("put " + characters, diary.put(characters), plain.put(characters));
    }

    private void putOrders() {
        due("wipe", diary.wipe(), plain.wipe());
        StringBuilder text = new StringBuilder();
        for (int i = below(12); i >= 0; i--) {
            text.append(text.length() == 0 ? "" : ";").append(order());
        }
        if (below(5) == 0) {
            text.setCharAt(below(text.length()), CHARACTERS.charAt(below(CHARACTERS.length())));
        }
        for (int at = 0; at < text.length(); at += 8) {
            long characters = 0;
            for (int i = at; i < Math.min(at + 8, text.length()); i++) {
                characters = characters << 8 | text.charAt(i);
            }
            due("put of " + text, diary.put(characters), plain.put(characters));
            calls++;
        }
        due("fault of " + text, diary.fault(), plain.fault());
        due("carryOut of " + text, diary.carryOut(), plain.carryOut());
    }

    private String order() {
        int works = plain.count(0) + 1;
        return switch (below(9)) {
            case 0 -> "b";
            case 1, 2 -> "w" + below(works) + ">" + below(8) + "=" + below(1000);
            case 3 -> "f" + below(works);
            case 4 -> "t" + below(works);
            case 5 -> "p" + below(8);
            case 6 -> "s" + below(plain.count(1) + 2);
            case 7 -> "x";
            default -> "m" + below(1000);
        };
    }

    private void compareAll() {
        for (int what = -1; what <= 11; what++) {
            due("count " + what, diary.count(what), plain.count(what));
        }
        for (int page = -1; page <= 8; page++) {
            for (int what = -1; what <= 7; what++) {
                due("ofPage " + page + " " + what, diary.ofPage(page, what), plain.ofPage(page, what));
            }
            due("wouldBe " + page, diary.wouldBe(page), plain.wouldBe(page));
            due("settled " + page, diary.settled(page), plain.settled(page));
        }
        int works = plain.count(0);
        for (int work = -1; work <= works; work++) {
            for (int what = -1; what <= 5; what++) {
                due("ofWork " + work + " " + what, diary.ofWork(work, what), plain.ofWork(work, what));
            }
        }
        int entries = plain.count(1);
        for (int entry = Math.max(-1, entries - 3 - below(12)); entry <= entries + 1; entry++) {
            for (int what = -1; what <= 8; what++) {
                due("ofEntry " + entry + " " + what, diary.ofEntry(entry, what), plain.ofEntry(entry, what));
            }
        }
        due("stepsToMend", diary.stepsToMend(), plain.stepsToMend());
        due("firstNeeded", diary.firstNeeded(), plain.firstNeeded());
        due("fault", diary.fault(), plain.fault());
    }
}
