/** The bounds that promises 11 to 18 name: a test for each sentence, which stands above it. */
public final class TellingBoundsTest extends Told {
    private TellingBoundsTest() { }

    public static void main(String[] args) {
        runAll(TellingBoundsTest.class);
    }

    private static final int[] FAR = {-2, 31, 32, 256, LOWEST, HIGHEST};

    // Promise 11, "`what`: 0 ... 6"; "BAD_VALUE if what is out of range"
    static void p11What0To6() {
        FloodDiary x = made("b;w0>1=5");
        duePage(x, 1, 0, 0, 1, 5, 2, 1, 0);
        due("ofPage(1, 7)", x.ofPage(1, 7), BAD_VALUE);
        due("ofPage(1, -1)", x.ofPage(1, -1), BAD_VALUE);
        for (int what : FAR) {
            due("ofPage(1, " + what + ")", x.ofPage(1, what), BAD_VALUE);
        }
    }

    // Promise 11, "NO_SUCH if there is no such page", ahead of BAD_VALUE
    static void p11OrderOfErrors() {
        FloodDiary x = made("b");
        for (int page : new int[] {-1, 8, LOWEST, HIGHEST}) {
            due("ofPage(" + page + ", 0)", x.ofPage(page, 0), NO_SUCH);
            due("ofPage(" + page + ", 6)", x.ofPage(page, 6), NO_SUCH);
            due("ofPage(" + page + ", 7)", x.ofPage(page, 7), NO_SUCH);
            due("ofPage(" + page + ", -1)", x.ofPage(page, -1), NO_SUCH);
        }
    }

    // Promise 11, "3, 4 its value and its mark in hand (NONE if it is not in hand)": on either side of a flood.
    static void p11NoneIfItIsNotInHand() {
        FloodDiary x = made("b;w0>1=0;p1");
        due("ofPage(1, 3)", x.ofPage(1, 3), 0);
        due("ofPage(1, 4)", x.ofPage(1, 4), 2);
        x.flood();
        due("ofPage(1, 3)", x.ofPage(1, 3), NONE);
        due("ofPage(1, 4)", x.ofPage(1, 4), NONE);
        x.mend(1);
        due("ofPage(1, 3)", x.ofPage(1, 3), 0);
        due("ofPage(1, 4)", x.ofPage(1, 4), 2);
    }

    // Promise 11, "6 the OPEN work that holds it (NONE; also while all has to be mended)"
    static void p11TheWorkThatHoldsIt() {
        FloodDiary x = made("b;b;b;w2>1=5;w0>0=6;s5");
        due("ofPage(1, 6)", x.ofPage(1, 6), 2);
        due("ofPage(0, 6)", x.ofPage(0, 6), 0);
        due("ofPage(2, 6)", x.ofPage(2, 6), NONE);
        x.flood();
        due("ofPage(1, 6) behind a flood", x.ofPage(1, 6), NONE);
        x.mend(2);
        due("ofPage(1, 6) amid mending", x.ofPage(1, 6), NONE);
        x.mend(999);
        due("ofPage(1, 6) when it is mended", x.ofPage(1, 6), NONE);
        x.begin();
        x.write(3, 1, 7);
        due("ofPage(1, 6)", x.ofPage(1, 6), 3);
    }

    // Promise 12, "`what`: 0 ... 4"; "BAD_VALUE if what is out of range"
    static void p12What0To4() {
        FloodDiary x = made("b;w0>1=5");
        dueWork(x, 0, OPEN, 2, 2, 2, 2);
        due("ofWork(0, 5)", x.ofWork(0, 5), BAD_VALUE);
        due("ofWork(0, -1)", x.ofWork(0, -1), BAD_VALUE);
        for (int what : FAR) {
            due("ofWork(0, " + what + ")", x.ofWork(0, what), BAD_VALUE);
        }
    }

    // Promise 12, "NO_SUCH if there is no such work", ahead of BAD_VALUE
    static void p12OrderOfErrors() {
        FloodDiary x = made("b;b");
        due("ofWork(1, 0)", x.ofWork(1, 0), OPEN);
        for (int work : new int[] {-1, 2, 15, 16, LOWEST, HIGHEST}) {
            due("ofWork(" + work + ", 0)", x.ofWork(work, 0), NO_SUCH);
            due("ofWork(" + work + ", 5)", x.ofWork(work, 5), NO_SUCH);
            due("ofWork(" + work + ", -1)", x.ofWork(work, -1), NO_SUCH);
        }
        x = made("b;b;b;b;b;b;b;b;b;b;b;b;b;b;b;b");
        due("ofWork(15, 1)", x.ofWork(15, 1), 16);
        due("ofWork(16, 1)", x.ofWork(16, 1), NO_SUCH);
    }

    // Promise 12, "3 the pages on which it wrote, as a set (0 if it is not OPEN; also told while all has to be mended)"
    static void p12ThePagesOnWhichItWrote() {
        FloodDiary x = made("b;b;b;w0>0=5;w1>7=6;w2>3=7;s6");
        due("ofWork(0, 3)", x.ofWork(0, 3), 1);
        due("ofWork(1, 3)", x.ofWork(1, 3), 128);
        x.finish(0);
        due("ofWork(0, 3), FINISHED", x.ofWork(0, 3), 0);
        x.flood();
        due("ofWork(0, 3), FINISHED behind a flood", x.ofWork(0, 3), 0);
        due("ofWork(1, 3) behind a flood", x.ofWork(1, 3), 128);
        x.mend(3);
        due("ofWork(2, 3) amid mending", x.ofWork(2, 3), 8);
        x.mend(1);
        due("ofWork(2, 3), taken back, and OPEN still", x.ofWork(2, 3), 8);
        x.mend(1);
        due("ofWork(1, 3), taken back, and OPEN still", x.ofWork(1, 3), 128);
        x.mend(1);
        due("ofWork(2, 3), TORN", x.ofWork(2, 3), 0);
    }

    // Promise 12, "3 ... (0 if it is not OPEN ...)": a work that is OPEN anew behind blurring tells them again.
    static void p12ThePagesOfAWorkThatIsOpenAnew() {
        FloodDiary x = made("b;w0>6=5;w0>2=5;f0;x");
        due("ofWork(0, 3)", x.ofWork(0, 3), 0);
        x.blur(1);
        due("ofWork(0, 3)", x.ofWork(0, 3), 64 | 4);
        x.blur(1);
        due("ofWork(0, 3), a WRITTEN is lost", x.ofWork(0, 3), 64);
        x.blur(1);
        due("ofWork(0, 3), it wrote nothing", x.ofWork(0, 3), 0);
        due("ofWork(0, 0)", x.ofWork(0, 0), OPEN);
    }

    // Promise 12, "4 the entry to go on with if it is taken back (0 if it is not OPEN)"
    static void p12TheEntryToGoOnWith() {
        FloodDiary x = made("b;b;b;w2>0=1;f0;t1");
        due("ofWork(0, 4), FINISHED", x.ofWork(0, 4), 0);
        due("ofWork(1, 4), TORN", x.ofWork(1, 4), 0);
        due("ofWork(2, 4), OPEN", x.ofWork(2, 4), 4);
    }

    // Promise 13, "`what`: 0 ... 7"; "BAD_VALUE if what is out of range"
    static void p13What0To7() {
        FloodDiary x = made("b;w0>1=5");
        dueEntry(x, 2, WRITTEN, 0, 1, 1, 0, 5, NONE, 0);
        due("ofEntry(2, 8)", x.ofEntry(2, 8), BAD_VALUE);
        due("ofEntry(2, -1)", x.ofEntry(2, -1), BAD_VALUE);
        for (int what : FAR) {
            due("ofEntry(2, " + what + ")", x.ofEntry(2, what), BAD_VALUE);
        }
    }

    // Promise 13, "NO_SUCH if there is no such entry", ahead of BAD_VALUE
    static void p13OrderOfErrors() {
        FloodDiary x = made("b;b");
        for (int entry : new int[] {-1, 0, 3, 150, 301, LOWEST, HIGHEST}) {
            due("ofEntry(" + entry + ", 0)", x.ofEntry(entry, 0), NO_SUCH);
            due("ofEntry(" + entry + ", 8)", x.ofEntry(entry, 8), NO_SUCH);
            due("ofEntry(" + entry + ", -1)", x.ofEntry(entry, -1), NO_SUCH);
        }
    }

    // Promise 13, "NO_SUCH if there is no such entry": the last one of a full diary.
    static void p13TheLastEntryOfAFullDiary() {
        FloodDiary x = written(149);
        due("ofEntry(150, 0)", x.ofEntry(150, 0), WRITTEN);
        due("ofEntry(150, 2)", x.ofEntry(150, 2), 149);
        due("ofEntry(151, 0)", x.ofEntry(151, 0), NO_SUCH);
        x = mended(151);
        due("ofEntry(151, 0)", x.ofEntry(151, 0), LEFT);
        due("ofEntry(152, 0)", x.ofEntry(152, 0), NO_SUCH);
    }

    // Promise 13, "3 its page (NONE), 4 the value before (NONE), 5 the value then (NONE), 6 ... (for BACK; otherwise
    // NONE)": of each kind, with page 0 and value 0, which are not NONE.
    static void p13NoneOfEachKind() {
        FloodDiary x = made("b;w0>0=0;t0;b;f1");
        dueEntry(x, 1, BEGUN, 0, 0, NONE, NONE, NONE, NONE);
        dueEntry(x, 2, WRITTEN, 0, 1, 0, 0, 0, NONE);
        dueEntry(x, 3, BACK, 0, 2, 0, NONE, 0, 1);
        dueEntry(x, 4, LEFT, 0, 3, NONE, NONE, NONE, NONE);
        dueEntry(x, 5, BEGUN, 1, 0, NONE, NONE, NONE, NONE);
        dueEntry(x, 6, DONE, 1, 5, NONE, NONE, NONE, NONE);
    }

    // Promise 13, "7 whether it is saved (1 or 0)": the last saved one, and the one behind it.
    static void p13WhetherItIsSaved() {
        FloodDiary x = made("b;w0>0=1;w0>0=2");
        due("ofEntry(1, 7), none is saved", x.ofEntry(1, 7), 0);
        x.save(2);
        due("ofEntry(2, 7)", x.ofEntry(2, 7), 1);
        due("ofEntry(3, 7)", x.ofEntry(3, 7), 0);
    }

    // Promise 14, "`what`: 0 ... 10"; "BAD_VALUE if what is out of range"
    static void p14What0To10() {
        FloodDiary x = made("b;w0>1=5;s1");
        type(x, "b;b;b");
        dueCounts(x, 1, 2, 1, 0, 0, 0, 0, 2, 1, 5, 1);
        due("count(11)", x.count(11), BAD_VALUE);
        due("count(-1)", x.count(-1), BAD_VALUE);
        for (int what : FAR) {
            due("count(" + what + ")", x.count(what), BAD_VALUE);
        }
    }

    // Promise 14, "4 floods so far (blurring is none), 5 steps of mending so far, 6 entries that were lost so far (by
    // floods and blurring)"
    static void p14WhatIsCountedSoFar() {
        FloodDiary x = made("b;w0>0=1;w0>0=2;w0>0=3;s3;x");
        due("count(6), by a flood", x.count(6), 1);
        x.blur(2);
        due("count(6), by blurring", x.count(6), 3);
        due("count(4)", x.count(4), 1);
        x.stepsToMend();
        due("count(5), by asking", x.count(5), 0);
        x.mend(1);
        due("count(5)", x.count(5), 1);
        x.flood();
        due("count(4)", x.count(4), 2);
        due("count(6), a LEFT was saved by mending", x.count(6), 3);
        x.undo();
        x.undo();
        due("count(5), undone", x.count(5), 0);
        due("count(4), undone", x.count(4), 1);
    }

    // Promise 14, "7 dirty pages, as a set": none, all.
    static void p14DirtyPages() {
        FloodDiary x = made("b");
        due("count(7)", x.count(7), 0);
        int set = 0;
        for (int page = 0; page < 8; page++) {
            x.write(0, page, 1);
            set |= 1 << page;
            due("count(7)", x.count(7), set);
        }
        for (int page = 0; page < 8; page++) {
            x.putAway(page);
            set &= ~(1 << page);
            due("count(7)", x.count(7), set);
        }
    }

    // Promise 14, "9 the length of the pad": empty and full; "10 how many changes can be undone": 0 to 6.
    static void p14ThePadAndTheHistory() {
        FloodDiary x = new FloodDiary();
        for (int i = 0; i < 10; i++) {
            due("count(9)", x.count(9), 8 * i);
            due("count(10)", x.count(10), Math.min(6, i));
            type(x, "xxxxxxxx");
            x.begin();
        }
        due("count(9)", x.count(9), 80);
        due("count(10)", x.count(10), 6);
    }

    // Promise 15, "(from now on; if nothing has to be mended, behind a flood now)"
    static void p15FromNowOn() {
        FloodDiary x = made("b;w0>0=1;w0>1=2;w0>2=3;s3");
        due("behind a flood now: 2 again, 2 back, LEFT", x.stepsToMend(), 5);
        due("count(3)", x.count(3), 0);
        x.flood();
        for (int left = 5; left > 0; left--) {
            due("from now on", x.stepsToMend(), left);
            due("mend(1)", x.mend(1), 1);
        }
        due("mended, behind a flood now: 2 and 2 again", x.stepsToMend(), 4);
    }

    // Promise 15: none, when nothing is saved, or nothing has to be done again; also while it has to be mended yet.
    static void p15NoSteps() {
        due("nothing is saved", made("b;w0>0=1;w0>1=2").stepsToMend(), 0);
        FloodDiary x = made("b;f0");
        due("nothing was written", x.stepsToMend(), 0);
        x.flood();
        due("behind a flood", x.stepsToMend(), 0);
        due("count(3)", x.count(3), 1);
    }

    // Promise 15: a work that a flood would forget takes no step; one with BEGUN alone takes one.
    static void p15ABegunAlone() {
        FloodDiary x = made("b;b");
        due("none is saved", x.stepsToMend(), 0);
        x.save(1);
        due("one BEGUN is saved", x.stepsToMend(), 1);
        x.save(2);
        due("two", x.stepsToMend(), 2);
    }

    // Promise 15: of a full diary, whose mending makes as many entries again.
    static void p15AFullDiary() {
        FloodDiary x = written(149);
        due("nothing is saved", x.stepsToMend(), 0);
        x.save(150);
        due("all is saved: 149 again, 149 back, LEFT", x.stepsToMend(), 299);
        due("count(1)", x.count(1), 150);
        due("begin()", x.begin(), TOO_MANY);
        x.flood();
        due("behind a flood", x.stepsToMend(), 299);
        due("mend(298)", x.mend(298), 298);
        due("amid mending", x.stepsToMend(), 1);
    }

    // Promise 16, "NO_SUCH if there is no such page", whether or not all has to be mended
    static void p16Pages() {
        FloodDiary x = made("b;w0>0=1;w0>7=2;f0");
        for (int i = 0; i < 2; i++) {
            due("wouldBe(0)", x.wouldBe(0), 1);
            due("wouldBe(7)", x.wouldBe(7), 2);
            due("wouldBe(8)", x.wouldBe(8), NO_SUCH);
            due("wouldBe(-1)", x.wouldBe(-1), NO_SUCH);
            due("wouldBe(lowest)", x.wouldBe(LOWEST), NO_SUCH);
            due("wouldBe(highest)", x.wouldBe(HIGHEST), NO_SUCH);
            x.flood();
        }
    }

    // Promise 16, "(from now on; if nothing has to be mended, behind a flood now)": what is saved counts, no more.
    static void p16WhatIsSaved() {
        FloodDiary x = made("b;w0>0=1;f0;b;w1>0=2;w1>0=3");
        due("the OPEN work's BEGUN is not saved", x.wouldBe(0), 1);
        x.save(6);
        due("it is, and is taken back", x.wouldBe(0), 1);
        due("finish(1)", x.finish(1), 7);
        due("DONE is saved", x.wouldBe(0), 3);
        x.flood();
        due("behind a flood", x.wouldBe(0), 3);
        x.blur(1);
        due("DONE is blurred", x.wouldBe(0), 1);
        x.mend(2);
        due("ofPage(0, 3) amid mending", x.ofPage(0, 3), 2);
        due("amid mending", x.wouldBe(0), 1);
    }

    // Promise 16, "nothing changes": nor does a page come into hand.
    static void p16NothingChanges() {
        FloodDiary x = made("b;w0>0=1;p0;s2;x");
        due("wouldBe(0)", x.wouldBe(0), 0);
        due("wouldBe(5)", x.wouldBe(5), 0);
        dueCounts(x, 1, 2, 2, 1, 1, 0, 0, 0, 1, 0, 1);
        due("ofPage(0, 2)", x.ofPage(0, 2), 0);
        due("mending has not begun", x.blur(1), NOT_POSSIBLE);
        x = made("b;w0>0=1;s2;x");
        x.wouldBe(0);
        x.stepsToMend();
        due("mending has not begun", x.blur(1), 1);
    }

    // Promise 16: of a full diary, and of one of which mending made 300 entries.
    static void p16AFullDiary() {
        FloodDiary x = written(148);
        x.finish(0);
        due("count(1)", x.count(1), 150);
        due("wouldBe(0)", x.wouldBe(0), 146);
        due("wouldBe(1)", x.wouldBe(1), 147);
        x = written(149);
        x.save(150);
        due("wouldBe(0), taken back", x.wouldBe(0), 0);
        x.flood();
        due("wouldBe(1), taken back", x.wouldBe(1), 0);
        x.mend(999);
        due("count(1)", x.count(1), 300);
        due("wouldBe(0), done again to the last BACK", x.wouldBe(0), 0);
    }

    // Promise 17, "NONE if there is none": empty, nothing saved, all put away and finished.
    static void p17None() {
        due("an empty diary", new FloodDiary().firstNeeded(), NONE);
        due("nothing is saved", made("b;w0>0=1").firstNeeded(), NONE);
        due("all is put away", made("b;w0>0=1;p0;f0").firstNeeded(), NONE);
        due("BEGUN and DONE alone", made("b;f0").firstNeeded(), NONE);
        due("BEGUN and LEFT alone", made("b;t0;s2").firstNeeded(), NONE);
    }

    // Promise 17, "of the saved entries": the last one that is saved, and the first that is not.
    static void p17OfTheSavedEntries() {
        FloodDiary x = made("b;f0;b");
        due("BEGUN is not saved", x.firstNeeded(), NONE);
        x.save(3);
        due("BEGUN is saved", x.firstNeeded(), 3);
        x = made("b;w0>0=1;f0;p0;b;w1>1=2;w1>0=3;t1");
        due("work 1 is not saved", x.firstNeeded(), NONE);
        x.save(8);
        due("LEFT is not saved", x.firstNeeded(), 4);
        x.save(9);
        due("LEFT is saved", x.firstNeeded(), 5);
    }

    // Promise 17, "a WRITTEN or BACK whose number is above the mark of its page on the shelf": below, equal, above.
    static void p17AboveTheMark() {
        FloodDiary x = made("b;w0>0=1;w0>0=2;p0;w0>0=3;f0");
        due("2 is below, 3 equal, 4 above", x.firstNeeded(), 4);
        x = made("b;w0>0=1;w0>0=2;t0;s6");
        due("2", x.firstNeeded(), 2);
        x.putAway(0);
        due("the BACK that is 5 is equal", x.firstNeeded(), NONE);
    }

    // Promise 17, "a WRITTEN or BACK whose number is above": a BACK, with a WRITTEN that is not.
    static void p17ABackAboveTheMark() {
        FloodDiary x = made("b;w0>3=1;p3;t0;s4");
        due("the BACK", x.firstNeeded(), 3);
        x = made("b;w0>3=1;p3;t0;s3");
        due("BEGUN, as LEFT is not saved", x.firstNeeded(), 1);
    }

    // Promise 17, "the lowest one": of a BEGUN and a WRITTEN that are needed both.
    static void p17TheLowestOne() {
        due("WRITTEN ahead of BEGUN", made("b;w0>0=1;b;f0").firstNeeded(), 2);
        due("BEGUN ahead of WRITTEN", made("b;b;w1>0=1;f1").firstNeeded(), 1);
        due("another page's WRITTEN", made("b;w0>0=1;w0>1=1;f0;p0").firstNeeded(), 3);
    }

    // Promise 17, "if a flood comes now": also told while all has to be mended; what mending enters is not saved.
    static void p17AmidMending() {
        FloodDiary x = made("b;w0>0=1;p0;s2;x");
        due("behind a flood", x.firstNeeded(), 1);
        x.mend(2);
        due("amid mending, the BACK is not saved", x.firstNeeded(), 1);
        x.mend(1);
        due("mended", x.firstNeeded(), 3);
    }

    // Promise 18, "NO_SUCH if there is no such page", ahead of NOT_POSSIBLE
    static void p18OrderOfErrors() {
        FloodDiary x = made("b;w0>7=4");
        due("settled(7)", x.settled(7), 0);
        for (int i = 0; i < 2; i++) {
            due("settled(8)", x.settled(8), NO_SUCH);
            due("settled(-1)", x.settled(-1), NO_SUCH);
            due("settled(lowest)", x.settled(LOWEST), NO_SUCH);
            due("settled(highest)", x.settled(HIGHEST), NO_SUCH);
            x.flood();
        }
        due("settled(7)", x.settled(7), NOT_POSSIBLE);
    }

    // Promise 18, "NOT_POSSIBLE if all has to be mended"
    static void p18UntilMended() {
        FloodDiary x = made("b;w0>0=4;f0;x");
        due("behind a flood", x.settled(0), NOT_POSSIBLE);
        x.mend(1);
        due("mended", x.settled(0), 4);
        x.flood();
        x.undo();
        due("the flood is undone", x.settled(0), 4);
    }

    // Promise 18, "if all OPEN works were torn now": none is OPEN, one, all of 16; saved or not.
    static void p18AllOpenWorks() {
        FloodDiary x = made("b;w0>0=4;w0>1=5;f0");
        due("none is OPEN", x.settled(0), 4);
        carry(x, "b;b;w1>0=6;w1>0=7;w2>1=8");
        due("work 1", x.settled(0), 4);
        due("work 2", x.settled(1), 5);
        x.finish(2);
        due("work 2 is FINISHED", x.settled(1), 8);
        due("work 1", x.settled(0), 4);
        x = made("b;b;b;b;b;b;b;b;b;b;b;b;b;b;b;b;w0>0=1;w15>7=2");
        due("work 0 of 16", x.settled(0), 0);
        due("work 15 of 16", x.settled(7), 0);
    }

    // Promise 18, "nothing changes"; it makes no entry, so that the limit of 150 entries does not count.
    static void p18WithAFullDiary() {
        FloodDiary x = written(149);
        due("tear(0)", x.tear(0), TOO_MANY);
        due("settled(0)", x.settled(0), 0);
        due("settled(1)", x.settled(1), 0);
        dueCounts(x, 1, 150, 0, 0, 0, 0, 0, 3, 1, 0, 6);
        due("ofPage(0, 3)", x.ofPage(0, 3), 148);
    }
}
