/** The bounds that promises 1 to 7 name: a test for each sentence, which stands above it. */
public final class WorksBoundsTest extends Told {
    private WorksBoundsTest() { }

    public static void main(String[] args) {
        runAll(WorksBoundsTest.class);
    }

    // Promise 1, "Creates pages without works.": what each call answers on a new object.
    static void p01AnEmptyDiary() {
        due("write(0, 0, 0)", new FloodDiary().write(0, 0, 0), NO_SUCH);
        due("finish(0)", new FloodDiary().finish(0), NO_SUCH);
        due("tear(0)", new FloodDiary().tear(0), NO_SUCH);
        due("save(0)", new FloodDiary().save(0), NO_SUCH);
        due("save(1)", new FloodDiary().save(1), NO_SUCH);
        due("putAway(0)", new FloodDiary().putAway(0), NOT_POSSIBLE);
        due("flood()", new FloodDiary().flood(), 0);
        due("blur(1)", new FloodDiary().blur(1), NOT_POSSIBLE);
        due("mend(1)", new FloodDiary().mend(1), NOT_POSSIBLE);
        due("ofWork(0, 0)", new FloodDiary().ofWork(0, 0), NO_SUCH);
        due("ofEntry(1, 0)", new FloodDiary().ofEntry(1, 0), NO_SUCH);
        due("stepsToMend()", new FloodDiary().stepsToMend(), 0);
        due("wouldBe(0)", new FloodDiary().wouldBe(0), 0);
        due("firstNeeded()", new FloodDiary().firstNeeded(), NONE);
        due("settled(7)", new FloodDiary().settled(7), 0);
        due("wipe()", new FloodDiary().wipe(), 0);
        due("fault()", new FloodDiary().fault(), 0);
        due("carryOut()", new FloodDiary().carryOut(), BAD_TEXT);
        due("undo()", new FloodDiary().undo(), NOT_POSSIBLE);
        due("keep(0)", new FloodDiary().keep(0), 0);
        due("bring(0)", new FloodDiary().bring(0), NOT_POSSIBLE);
        dueCounts(new FloodDiary(), 0, 0, 0, 0, 0, 0, 0, 0, 0, 0, 0);
    }

    // Promise 2, "TOO_MANY if there are 16 works"
    static void p02SixteenWorksAndNoMore() {
        FloodDiary x = new FloodDiary();
        for (int work = 0; work < 15; work++) {
            x.begin();
        }
        due("begin() with 15 works", x.begin(), 15);
        due("begin() with 16 works", x.begin(), TOO_MANY);
        due("count(0)", x.count(0), 16);
    }

    // Promise 2, "TOO_MANY if there are 16 works": those that are not OPEN are counted, too.
    static void p02WorksThatAreNotOpenCount() {
        FloodDiary x = made("b;b;b;b;b;b;b;b;b;b;b;b;b;b;b;b");
        for (int work = 0; work < 16; work++) {
            due("an answer above 0", Math.min(work % 2 == 0 ? x.finish(work) : x.tear(work), 1), 1);
        }
        due("count(8)", x.count(8), 0);
        due("begin()", x.begin(), TOO_MANY);
    }

    // Promise 2, "TOO_MANY if there are 16 works": a flood that forgets one makes room for one.
    static void p02AForgottenWorkMakesRoom() {
        FloodDiary x = made("b;b;b;b;b;b;b;b;b;b;b;b;b;b;b;b;s15;x;m999");
        due("count(0)", x.count(0), 15);
        due("begin()", x.begin(), 15);
        due("begin()", x.begin(), TOO_MANY);
    }

    // Promise 2, "TOO_MANY if there are ... 150 entries or more"
    static void p02Up150Entries() {
        FloodDiary x = written(148);
        due("begin() with 149 entries", x.begin(), 1);
        due("count(1)", x.count(1), 150);
        due("begin() with 150 entries", x.begin(), TOO_MANY);
        due("count(0)", x.count(0), 2);
    }

    // Promise 2, "150 entries or more": as many as mending has made.
    static void p02MoreThan150EntriesByMending() {
        due("begin() with 149 entries", mended(149).begin(), 2);
        due("begin() with 150 entries", mended(150).begin(), TOO_MANY);
        due("begin() with 151 entries", mended(151).begin(), TOO_MANY);
        due("begin() with 298 entries", mended(298).begin(), TOO_MANY);
    }

    // Promise 2, "NOT_POSSIBLE if all has to be mended"
    static void p02NotPossibleUntilMended() {
        FloodDiary x = made("b;b;s2;x");
        due("begin() behind a flood", x.begin(), NOT_POSSIBLE);
        x.mend(1);
        due("begin() amid mending", x.begin(), NOT_POSSIBLE);
        x.mend(1);
        due("begin()", x.begin(), 2);
    }

    // Promise 2, the order of its errors: TOO_MANY, NOT_POSSIBLE.
    static void p02OrderOfErrors() {
        FloodDiary x = made("b;b;b;b;b;b;b;b;b;b;b;b;b;b;b;b;s16;x");
        due("begin(), 16 works, to be mended", x.begin(), TOO_MANY);
        x = written(149);
        x.save(150);
        x.flood();
        due("begin(), 150 entries, to be mended", x.begin(), TOO_MANY);
        x = written(149);
        x.save(149);
        x.flood();
        due("begin(), 149 entries, to be mended", x.begin(), NOT_POSSIBLE);
    }

    // Promise 3, "`value`: 0 to 999"; "BAD_VALUE if value is out of range"
    static void p03Values0To999() {
        FloodDiary x = made("b");
        due("value -1", x.write(0, 0, -1), BAD_VALUE);
        due("value 0", x.write(0, 0, 0), 0);
        due("value 999", x.write(0, 0, 999), 0);
        due("value 1000", x.write(0, 0, 1000), BAD_VALUE);
        due("value lowest", x.write(0, 0, LOWEST), BAD_VALUE);
        due("value highest", x.write(0, 0, HIGHEST), BAD_VALUE);
        due("ofPage(0, 3)", x.ofPage(0, 3), 999);
        due("count(1)", x.count(1), 3);
    }

    // Promise 3, "NO_SUCH if there is no such work"
    static void p03Works() {
        FloodDiary x = made("b;b");
        due("work 0", x.write(0, 0, 1), 0);
        due("work 1", x.write(1, 1, 1), 0);
        due("work 2", x.write(2, 2, 1), NO_SUCH);
        due("work -1", x.write(-1, 2, 1), NO_SUCH);
        due("work 16", x.write(16, 2, 1), NO_SUCH);
        due("work lowest", x.write(LOWEST, 2, 1), NO_SUCH);
        due("work highest", x.write(HIGHEST, 2, 1), NO_SUCH);
    }

    // Promise 3, "NO_SUCH if there is no such work": nor work 16 when there are 16.
    static void p03Work15IsTheLast() {
        FloodDiary x = made("b;b;b;b;b;b;b;b;b;b;b;b;b;b;b;b");
        due("work 15", x.write(15, 2, 1), 0);
        due("work 16", x.write(16, 3, 1), NO_SUCH);
        due("work 17", x.write(17, 3, 1), NO_SUCH);
    }

    // Promise 3, "NO_SUCH if there is no such ... page"
    static void p03Pages() {
        FloodDiary x = made("b");
        due("page 0", x.write(0, 0, 1), 0);
        due("page 7", x.write(0, 7, 1), 0);
        due("page 8", x.write(0, 8, 1), NO_SUCH);
        due("page -1", x.write(0, -1, 1), NO_SUCH);
        due("page lowest", x.write(0, LOWEST, 1), NO_SUCH);
        due("page highest", x.write(0, HIGHEST, 1), NO_SUCH);
        due("count(1)", x.count(1), 3);
    }

    // Promise 3, "TOO_MANY if there are 150 entries or more"
    static void p03Up150Entries() {
        FloodDiary x = written(148);
        due("with 149 entries", x.write(0, 2, 1), 0);
        due("with 150 entries", x.write(0, 2, 2), TOO_MANY);
        due("ofPage(2, 3)", x.ofPage(2, 3), 1);
        due("ofPage(2, 4)", x.ofPage(2, 4), 150);
        due("count(1)", x.count(1), 150);
    }

    // Promise 3, "150 entries or more": with 148 there is room for begin() and one write(), none with 151.
    static void p03MoreThan150EntriesByMending() {
        FloodDiary x = mended(148);
        x.begin();
        due("with 149 entries", x.write(2, 2, 1), 0);
        due("with 150 entries", x.write(2, 2, 1), TOO_MANY);
        due("with 151 entries, TORN", mended(151).write(1, 2, 1), TOO_MANY);
    }

    // Promise 3, "NOT_POSSIBLE if ... the work is not OPEN"
    static void p03WorksThatAreNotOpen() {
        FloodDiary x = made("b;b;f0;t1");
        due("a FINISHED work", x.write(0, 0, 1), NOT_POSSIBLE);
        due("a TORN work", x.write(1, 0, 1), NOT_POSSIBLE);
        due("ofPage(0, 2)", x.ofPage(0, 2), 0);
    }

    // Promise 3, "NOT_POSSIBLE if ... another OPEN work holds the page": the first and the last work, and page.
    static void p03PagesThatAreHeld() {
        FloodDiary x = made("b;b;b;b;b;b;b;b;b;b;b;b;b;b;b;b;w0>0=1;w15>7=2");
        due("write(15, 0, 3)", x.write(15, 0, 3), NOT_POSSIBLE);
        due("write(0, 7, 3)", x.write(0, 7, 3), NOT_POSSIBLE);
        due("write(0, 0, 3)", x.write(0, 0, 3), 1);
        due("write(15, 7, 3)", x.write(15, 7, 3), 2);
    }

    // Promise 3, the order of its errors: NO_SUCH, BAD_VALUE, TOO_MANY, NOT_POSSIBLE.
    static void p03OrderOfErrors() {
        FloodDiary x = made("b;b;w0>0=1;f1");
        due("work and value", x.write(2, 0, 1000), NO_SUCH);
        due("page and value", x.write(0, 8, 1000), NO_SUCH);
        due("page and a work that is not OPEN", x.write(1, 8, 1), NO_SUCH);
        due("value and a work that is not OPEN", x.write(1, 1, 1000), BAD_VALUE);
        due("value and a page that is held", x.write(1, 0, -1), BAD_VALUE);
        x = written(147);
        x.begin();
        x.finish(1);
        due("work and entries", x.write(2, 0, 1), NO_SUCH);
        due("page and entries", x.write(0, 8, 1), NO_SUCH);
        due("value and entries", x.write(0, 0, 1000), BAD_VALUE);
        due("entries and a work that is not OPEN", x.write(1, 3, 1), TOO_MANY);
        due("entries and a page that is held", x.write(1, 0, 1), TOO_MANY);
        x.flood();
        due("work and a flood", x.write(2, 0, 1), NO_SUCH);
        due("page and a flood", x.write(0, 8, 1), NO_SUCH);
        due("value and a flood", x.write(0, 0, 1000), BAD_VALUE);
        due("entries and a flood", x.write(0, 0, 1), TOO_MANY);
        x.blur(1);
        due("a flood", x.write(0, 0, 1), NOT_POSSIBLE);
    }

    // Promise 4, "NO_SUCH if there is no such work"
    static void p04Works() {
        FloodDiary x = made("b;b");
        for (int work : new int[] {-1, 2, 15, 16, LOWEST, HIGHEST}) {
            due("finish(" + work + ")", x.finish(work), NO_SUCH);
        }
        due("finish(1)", x.finish(1), 3);
        due("finish(0)", x.finish(0), 4);
    }

    // Promise 4, "TOO_MANY if there are 150 entries or more"
    static void p04Up150Entries() {
        FloodDiary x = written(148);
        due("with 149 entries", x.finish(0), 150);
        x = written(149);
        due("with 150 entries", x.finish(0), TOO_MANY);
        due("ofWork(0, 0)", x.ofWork(0, 0), OPEN);
        due("count(2)", x.count(2), 0);
    }

    // Promise 4, "NOT_POSSIBLE if all has to be mended, or the work is not OPEN"
    static void p04WorksThatAreNotOpen() {
        FloodDiary x = made("b;b;b;f0;t1");
        due("finish(0), FINISHED", x.finish(0), NOT_POSSIBLE);
        due("finish(1), TORN", x.finish(1), NOT_POSSIBLE);
        due("finish(2), OPEN", x.finish(2), 6);
    }

    // Promise 4, the order of its errors: NO_SUCH, TOO_MANY, NOT_POSSIBLE.
    static void p04OrderOfErrors() {
        FloodDiary x = written(147);
        x.begin();
        x.finish(1);
        due("work and entries", x.finish(2), NO_SUCH);
        due("entries and not OPEN", x.finish(1), TOO_MANY);
        x.flood();
        due("work, entries and a flood", x.finish(2), NO_SUCH);
        due("entries and a flood", x.finish(0), TOO_MANY);
        x.blur(1);
        due("a flood", x.finish(0), NOT_POSSIBLE);
        due("work and a flood", x.finish(2), NO_SUCH);
        due("with 151 entries", mended(151).finish(0), TOO_MANY);
        due("with 149 entries", mended(149).finish(0), NOT_POSSIBLE);
    }

    // "all entries up to this one are saved": those of other works, too.
    static void p04FinishingSavesAll() {
        FloodDiary x = made("b;b;w1>0=4;w0>1=5");
        due("count(2)", x.count(2), 0);
        due("finish(0)", x.finish(0), 5);
        due("count(2)", x.count(2), 5);
        due("ofEntry(3, 7)", x.ofEntry(3, 7), 1);
    }

    // Promise 5, "NO_SUCH if there is no such work"
    static void p05Works() {
        FloodDiary x = made("b;b");
        for (int work : new int[] {-1, 2, 15, 16, LOWEST, HIGHEST}) {
            due("tear(" + work + ")", x.tear(work), NO_SUCH);
        }
        due("tear(1)", x.tear(1), 1);
        due("tear(0)", x.tear(0), 1);
    }

    // Promise 5, "NOT_POSSIBLE if all has to be mended, or the work is not OPEN"
    static void p05WorksThatAreNotOpen() {
        FloodDiary x = made("b;b;b;f0;t1;s5");
        due("tear(0), FINISHED", x.tear(0), NOT_POSSIBLE);
        due("tear(1), TORN", x.tear(1), NOT_POSSIBLE);
        x.flood();
        due("tear(2), behind a flood", x.tear(2), NOT_POSSIBLE);
    }

    // Promise 5, "TOO_MANY if there would be more than 150 entries"
    static void p05Up150Entries() {
        FloodDiary x = written(74);
        due("tear(0) from 75 to 150 entries", x.tear(0), 75);
        due("count(1)", x.count(1), 150);
        x = written(74);
        x.begin();
        due("tear(0) from 76 to 151 entries", x.tear(0), TOO_MANY);
        due("ofWork(0, 0)", x.ofWork(0, 0), OPEN);
        due("count(1)", x.count(1), 76);
        due("tear(1) from 76 to 77 entries", x.tear(1), 1);
    }

    // Promise 5, "TOO_MANY if there would be more than 150 entries": of a work that wrote nothing.
    static void p05TheLastEntry() {
        FloodDiary x = written(147);
        x.begin();
        due("tear(1) from 149 to 150 entries", x.tear(1), 1);
        x = written(148);
        x.begin();
        due("tear(1) from 150 to 151 entries", x.tear(1), TOO_MANY);
    }

    // Promise 5, the order of its errors: NO_SUCH, NOT_POSSIBLE, TOO_MANY.
    static void p05OrderOfErrors() {
        FloodDiary x = written(147);
        x.begin();
        x.finish(1);
        due("work and entries", x.tear(2), NO_SUCH);
        due("not OPEN and entries", x.tear(1), NOT_POSSIBLE);
        due("entries", x.tear(0), TOO_MANY);
        x.flood();
        due("work and a flood", x.tear(2), NO_SUCH);
        due("a flood and entries", x.tear(0), NOT_POSSIBLE);
    }

    // Promise 5: "To tear a work means to take such steps until it is TORN", from its last entry back to BEGUN.
    static void p05ItEndsAtBegun() {
        FloodDiary x = made("b;b;w1>0=1;w1>0=2;b");
        due("tear(1)", x.tear(1), 3);
        dueWork(x, 1, TORN, 8, 6, 0, 0);
        due("ofEntry(7, 6)", x.ofEntry(7, 6), 2);
        due("ofWork(0, 0)", x.ofWork(0, 0), OPEN);
        due("ofWork(2, 0)", x.ofWork(2, 0), OPEN);
        due("count(2), tearing saves nothing", x.count(2), 0);
    }

    // Promise 6, "NO_SUCH if there is no such entry"
    static void p06Entries() {
        FloodDiary x = made("b;w0>0=1;w0>0=2");
        for (int entry : new int[] {-1, 0, 4, 150, LOWEST, HIGHEST}) {
            due("save(" + entry + ")", x.save(entry), NO_SUCH);
        }
        due("save(1)", x.save(1), 1);
        due("save(3)", x.save(3), 3);
        due("save(4)", x.save(4), NO_SUCH);
    }

    // Promise 6, "(if they are saved farther already, it stays so)"
    static void p06SavedFartherAlready() {
        FloodDiary x = made("b;w0>0=1;w0>0=2;w0>0=3");
        due("save(3)", x.save(3), 3);
        due("save(2)", x.save(2), 3);
        due("save(3)", x.save(3), 3);
        due("save(4)", x.save(4), 4);
        due("save(1)", x.save(1), 4);
        due("count(2)", x.count(2), 4);
    }

    // Promise 6, "NO_SUCH if there is no such entry": the last one of 150, and of 298.
    static void p06TheLastEntryOfAFullDiary() {
        FloodDiary x = written(149);
        due("save(151)", x.save(151), NO_SUCH);
        due("save(150)", x.save(150), 150);
        x = mended(298);
        due("save(299)", x.save(299), NO_SUCH);
        due("save(298)", x.save(298), 298);
        due("save(151)", x.save(151), 298);
    }

    // Promise 6, the order of its errors: NO_SUCH, NOT_POSSIBLE.
    static void p06OrderOfErrors() {
        FloodDiary x = made("b;w0>0=1;s1;x");
        due("save(2), lost", x.save(2), NO_SUCH);
        due("save(0)", x.save(0), NO_SUCH);
        due("save(1)", x.save(1), NOT_POSSIBLE);
    }

    // Promise 6, "NOT_POSSIBLE if all has to be mended": an entry that mending made is not saved by it.
    static void p06AmidMending() {
        FloodDiary x = made("b;w0>0=1;s2;x;m2");
        due("count(1)", x.count(1), 3);
        due("save(3)", x.save(3), NOT_POSSIBLE);
        due("save(4)", x.save(4), NO_SUCH);
        due("count(2)", x.count(2), 2);
        due("flood(), the BACK is lost", x.flood(), 1);
    }

    // Promise 7, "NO_SUCH if there is no such page"
    static void p07Pages() {
        FloodDiary x = made("b;w0>0=1;w0>7=2");
        for (int page : new int[] {-1, 8, 32, 39, LOWEST, HIGHEST}) {
            due("putAway(" + page + ")", x.putAway(page), NO_SUCH);
        }
        due("putAway(0)", x.putAway(0), 2);
        due("putAway(7)", x.putAway(7), 3);
    }

    // Promise 7, "NOT_POSSIBLE if ... the page is not in hand"
    static void p07PagesThatAreNotInHand() {
        FloodDiary x = made("b;w0>1=1");
        due("putAway(0)", x.putAway(0), NOT_POSSIBLE);
        due("putAway(2)", x.putAway(2), NOT_POSSIBLE);
        due("putAway(1)", x.putAway(1), 2);
        due("putAway(1), it stays in hand", x.putAway(1), 2);
    }

    // "all entries up to its mark are saved (if they are not)": no farther, and never less far.
    static void p07SavedUpToItsMark() {
        FloodDiary x = made("b;w0>0=1;w0>1=2;w0>2=3");
        due("putAway(1)", x.putAway(1), 3);
        due("ofEntry(3, 7)", x.ofEntry(3, 7), 1);
        due("ofEntry(4, 7)", x.ofEntry(4, 7), 0);
        due("putAway(0), saved farther already", x.putAway(0), 3);
        due("ofPage(0, 1)", x.ofPage(0, 1), 2);
        due("putAway(2)", x.putAway(2), 4);
    }

    // Promise 7, the order of its errors: NO_SUCH, NOT_POSSIBLE; amid mending a page may be in hand.
    static void p07OrderOfErrors() {
        FloodDiary x = made("b;w0>0=1;w0>1=2;s3;x");
        due("putAway(8)", x.putAway(8), NO_SUCH);
        due("putAway(0)", x.putAway(0), NOT_POSSIBLE);
        x.mend(1);
        due("ofPage(0, 2)", x.ofPage(0, 2), 1);
        due("putAway(0)", x.putAway(0), NOT_POSSIBLE);
        due("ofPage(0, 0)", x.ofPage(0, 0), 0);
        x.mend(999);
        due("putAway(0), mended", x.putAway(0), 6);
    }
}
