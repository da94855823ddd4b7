import java.util.Random;
import java.util.function.ToIntFunction;

/**
 * Makes the same calls on FloodDiary and on PlainDiary, and compares every answer; on each object 512 at most,
 * as what later calls answer is free.
 */
public final class ModelTest {
    private static final int RUNS = 4000, CALLS = 512;
    private static final int[] ODD = {-1, 8, 16, 1000, -7, Integer.MAX_VALUE, Integer.MIN_VALUE, 1 << 30};
    private static final String CHARACTERS = "bwftpsxm;>=0123456789;;;bwf>=b~!";

    private final Check check;
    private final Random random;
    private final FloodDiary diary = new FloodDiary();
    private final PlainDiary plain = new PlainDiary();
    private final int temper;
    private int calls = 0;

    private ModelTest(Check check, int seed) {
        this.check = check;
        this.random = new Random(seed);
        this.temper = seed % 4;
        check.about("seed " + seed);
    }

    public static void main(String[] args) {
        Check check = new Check();
        for (int seed = 0; seed < RUNS && check.wrong() == 0; seed++) {
            new ModelTest(check, seed).run();
        }
        check.end();
    }

    private void run() {
        // Some runs change much and ask little: they come to full diaries. Others ask much about little.
        int questions = below(6);
        while (calls < CALLS && check.wrong() == 0) {
            change();
            for (int i = below(questions + 1); i > 0; i--) {
                ask();
            }
        }
    }

    /** Makes a call on both, unless the object has been used up. */
    private void both(String call, ToIntFunction<FloodDiary> one, ToIntFunction<PlainDiary> other) {
        if (calls < CALLS) {
            calls++;
            check.due("call " + calls + " " + call, one.applyAsInt(diary), other.applyAsInt(plain));
        }
    }

    private int below(int bound) {
        return random.nextInt(bound);
    }

    private int some(int bound) {
        return below(40) == 0 ? ODD[below(ODD.length)] : below(Math.max(1, bound));
    }

    /** The works of late, so that open ones are met more often. */
    private int work() {
        int works = plain.count(0);
        return below(3) == 0 ? some(works + 1) : some(works) | (below(2) == 0 ? 1 : 0);
    }

    private int page() {
        return temper == 1 ? some(2) : some(8);
    }

    private void change() {
        boolean broken = plain.count(3) == 1;
        int kind = below(100);
        if (broken && below(3) != 0) {
            int steps = below(4) == 0 ? 1 + below(999) : 1 + below(6);
            int many = 1 + below(5);
            int choice = below(10);
            if (choice < 5) {
                both("mend " + steps, d -> d.mend(steps), p -> p.mend(steps));
            } else if (choice < 8) {
                both("blur " + many, d -> d.blur(many), p -> p.blur(many));
            } else {
                both("flood", d -> d.flood(), p -> p.flood());
            }
            return;
        }
        if (temper == 3 && !broken && plain.count(1) < 148 && kind != 0) {
            grow();
        } else if (kind < 8) {
            both("begin", d -> d.begin(), p -> p.begin());
        } else if (kind < (temper == 2 ? 78 : 50)) {
            int work = work(), page = page(), value = below(30) == 0 ? ODD[below(ODD.length)] : below(1000);
            both("write " + work + " " + page + " " + value, d -> d.write(work, page, value), p -> p.write(work, page, value));
        } else {
            rarerChange(kind % 25);
        }
    }

    /** Comes near the limit of entries soon, with few works, so that mending goes beyond it. */
    private void grow() {
        int open = plain.count(8);
        int entries = plain.count(1);
        if (open == 0 && plain.count(0) == 16) {
            both("undo", d -> d.undo(), p -> p.undo());
        } else if (open == 0 || below(40) == 0) {
            both("begin", d -> d.begin(), p -> p.begin());
        } else if (below(8) == 0 && entries > 0) {
            both("save " + entries, d -> d.save(entries), p -> p.save(entries));
        } else {
            int work = below(2) == 0 ? Integer.numberOfTrailingZeros(open) : 31 - Integer.numberOfLeadingZeros(open);
            int page = below(8), value = below(1000);
            both("write " + work + " " + page, d -> d.write(work, page, value), p -> p.write(work, page, value));
        }
    }

    private void rarerChange(int kind) {
        int work = work(), page = page(), slot = some(2);
        int steps = below(3) == 0 ? some(3) : some(1001);
        int entry = below(3) == 0 ? some(302) : plain.count(1) - below(4);
        switch (kind) {
            case 0, 1 -> both("finish " + work, d -> d.finish(work), p -> p.finish(work));
            case 2, 3 -> both("tear " + work, d -> d.tear(work), p -> p.tear(work));
            case 4, 5, 6 -> both("save " + entry, d -> d.save(entry), p -> p.save(entry));
            case 7, 8, 9 -> both("putAway " + page, d -> d.putAway(page), p -> p.putAway(page));
            case 10 -> both("flood", d -> d.flood(), p -> p.flood());
            case 11 -> both("blur " + steps, d -> d.blur(steps), p -> p.blur(steps));
            case 12 -> both("mend " + steps, d -> d.mend(steps), p -> p.mend(steps));
            case 13, 14, 15, 16 -> putSome();
            case 17 -> both("wipe", d -> d.wipe(), p -> p.wipe());
            case 18, 19 -> both("carryOut", d -> d.carryOut(), p -> p.carryOut());
            case 20, 21 -> both("undo", d -> d.undo(), p -> p.undo());
            case 22 -> both("keep " + slot, d -> d.keep(slot), p -> p.keep(slot));
            case 23 -> both("bring " + slot, d -> d.bring(slot), p -> p.bring(slot));
            default -> putOrders();
        }
    }

    private void putSome() {
        long characters = 0;
        int many = below(9);
        for (int i = 0; i < many; i++) {
            characters = characters << 8 | CHARACTERS.charAt(below(CHARACTERS.length()));
        }
        if (below(8) == 0) {
            characters = random.nextLong() >>> below(64);
        }
        put(characters);
    }

    private void put(long characters) {
        both("put " + characters, d -> d.put(characters), p -> p.put(characters));
    }

    private void putOrders() {
        both("wipe", d -> d.wipe(), p -> p.wipe());
        StringBuilder text = new StringBuilder();
        for (int i = below(12); i >= 0; i--) {
            text.append(text.length() == 0 ? "" : ";").append(order());
        }
        if (below(5) == 0) {
            text.setCharAt(below(text.length()), CHARACTERS.charAt(below(CHARACTERS.length())));
        }
        for (int at = 0; at < text.length(); at += 8) {
            long characters = 0;
            for (int i = at; i < Math.min(at + 8, text.length()); i++) {
                characters = characters << 8 | text.charAt(i);
            }
            put(characters);
        }
        both("fault of " + text, d -> d.fault(), p -> p.fault());
        both("carryOut of " + text, d -> d.carryOut(), p -> p.carryOut());
    }

    private String order() {
        int works = plain.count(0) + 1;
        return switch (below(9)) {
            case 0 -> "b";
            case 1, 2 -> "w" + below(works) + ">" + below(8) + "=" + below(1000);
            case 3 -> "f" + below(works);
            case 4 -> "t" + below(works);
            case 5 -> "p" + below(8);
            case 6 -> "s" + below(plain.count(1) + 2);
            case 7 -> "x";
            default -> "m" + below(1000);
        };
    }

    /** Asks one question about what there is, or what if. */
    private void ask() {
        int page = below(10) - 1, work = below(plain.count(0) + 2) - 1, entries = plain.count(1);
        int entry = below(2) == 0 ? below(entries + 2) : entries + 1 - below(8);
        int ofPage = below(9) - 1, ofWork = below(7) - 1, ofEntry = below(10) - 1, count = below(13) - 1;
        switch (below(12)) {
            case 0, 1 -> both("count " + count, d -> d.count(count), p -> p.count(count));
            case 2, 3 -> both("ofPage " + page + " " + ofPage, d -> d.ofPage(page, ofPage), p -> p.ofPage(page, ofPage));
            case 4, 5 -> both("ofWork " + work + " " + ofWork, d -> d.ofWork(work, ofWork), p -> p.ofWork(work, ofWork));
            case 6, 7 -> both("ofEntry " + entry + " " + ofEntry,
                d -> d.ofEntry(entry, ofEntry), p -> p.ofEntry(entry, ofEntry));
            case 8 -> both("wouldBe " + page, d -> d.wouldBe(page), p -> p.wouldBe(page));
            case 9 -> both("settled " + page, d -> d.settled(page), p -> p.settled(page));
            case 10 -> both("stepsToMend", d -> d.stepsToMend(), p -> p.stepsToMend());
            default -> both("firstNeeded", d -> d.firstNeeded(), p -> p.firstNeeded());
        }
    }
}
