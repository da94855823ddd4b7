/** The bounds that promises 8 to 10 name: a test for each sentence, which stands above it. */
public final class FloodBoundsTest extends Told {
    private FloodBoundsTest() { }

    public static void main(String[] args) {
        runAll(FloodBoundsTest.class);
    }

    // Promise 8, "Returns how many entries it takes.": none, some, all.
    static void p08HowManyItTakes() {
        due("of an empty diary", new FloodDiary().flood(), 0);
        due("all are saved", made("b;w0>0=1;s2").flood(), 0);
        due("all but the first", made("b;w0>0=1;w0>0=1;s1").flood(), 2);
        due("none is saved", made("b;w0>0=1;b;t1").flood(), 4);
        due("150, none is saved", written(149).flood(), 150);
        due("298, all are saved by mending", mended(298).flood(), 0);
    }

    // "A flood takes ... all entries that are not saved": the last one that is saved stays.
    static void p08TheLastSavedEntryStays() {
        FloodDiary x = made("b;w0>0=1;w0>1=2;w0>2=3;s3");
        due("flood()", x.flood(), 1);
        dueEntry(x, 3, WRITTEN, 0, 2, 1, 0, 2, NONE, 1);
        due("ofEntry(4, 0)", x.ofEntry(4, 0), NO_SUCH);
        due("count(2)", x.count(2), 3);
        due("count(6)", x.count(6), 1);
    }

    // "(a work whose BEGUN is taken so is forgotten ...)": one whose BEGUN is the last saved entry is not.
    static void p08TheBegunThatIsSavedLast() {
        FloodDiary x = made("b;b;b;s2;x");
        due("count(0)", x.count(0), 2);
        dueWork(x, 1, OPEN, 2, 1, 0, 2);
        x = made("b;b;b;s1;x");
        due("count(0)", x.count(0), 1);
        due("ofWork(1, 0)", x.ofWork(1, 0), NO_SUCH);
        x = made("b;b;b;x");
        due("count(0)", x.count(0), 0);
        due("ofWork(0, 0)", x.ofWork(0, 0), NO_SUCH);
    }

    // "(... it is as if it had never begun ...)": it holds no page any more.
    static void p08AForgottenWorkHoldsNothing() {
        FloodDiary x = made("b;s1;b;w1>3=5;x;m1");
        due("begin()", x.begin(), 1);
        due("ofWork(1, 3)", x.ofWork(1, 3), 0);
        due("ofPage(3, 6)", x.ofPage(3, 6), NONE);
        due("write(1, 3, 6)", x.write(1, 3, 6), 0);
    }

    // "Then each work is FINISHED or TORN if there is a DONE or LEFT of it": LEFT saved as the last, and lost.
    static void p08LeftSavedOrLost() {
        FloodDiary x = made("b;w0>0=4;t0;s4;x");
        dueWork(x, 0, TORN, 4, 4, 0, 0);
        x = made("b;w0>0=4;t0;s3;x");
        dueWork(x, 0, OPEN, 3, 3, 1, 1);
        x = made("b;w0>0=4;t0;s2;x");
        dueWork(x, 0, OPEN, 2, 2, 1, 2);
    }

    // "A flood takes all pages out of hand": the shelf keeps what was put away.
    static void p08PagesLeaveTheHand() {
        FloodDiary x = made("b;w0>0=4;w0>7=5;p7;w0>7=6;x");
        duePage(x, 0, 0, 0, 0, NONE, NONE, 0, NONE);
        duePage(x, 7, 5, 3, 0, NONE, NONE, 0, NONE);
    }

    // Promise 8: a flood can come at any time, behind another and amid mending.
    static void p08FloodsBehindFloods() {
        FloodDiary x = made("b;w0>0=4;s2");
        for (int floods = 1; floods <= 7; floods++) {
            due("flood()", x.flood(), 0);
            due("count(4)", x.count(4), floods);
        }
        due("mend(2)", x.mend(2), 2);
        due("flood(), a BACK is lost", x.flood(), 1);
        due("count(4)", x.count(4), 8);
        due("count(6)", x.count(6), 1);
        due("ofPage(0, 2)", x.ofPage(0, 2), 0);
    }

    // Promise 9, "`many`: 1 to 5"; "BAD_VALUE if many is out of range"
    static void p09From1To5() {
        FloodDiary x = written(20);
        x.save(21);
        x.flood();
        for (int many : new int[] {0, 6, -1, LOWEST, HIGHEST}) {
            due("blur(" + many + ")", x.blur(many), BAD_VALUE);
        }
        due("blur(5)", x.blur(5), 16);
        due("blur(1)", x.blur(1), 15);
        due("count(6)", x.count(6), 6);
    }

    // Promise 9, "NOT_POSSIBLE if no flood came before"
    static void p09WithoutAFlood() {
        FloodDiary x = made("b;w0>0=1;s2");
        due("blur(1)", x.blur(1), NOT_POSSIBLE);
        x.flood();
        x.undo();
        due("blur(1), the flood is undone", x.blur(1), NOT_POSSIBLE);
        x.flood();
        due("blur(1)", x.blur(1), 1);
    }

    // Promise 9, "NOT_POSSIBLE if ... mending has begun since the last one"
    static void p09MendingHasBegun() {
        FloodDiary x = made("b;w0>0=1;s2;x;m1");
        due("blur(1) amid mending", x.blur(1), NOT_POSSIBLE);
        x.mend(999);
        due("blur(1) when it is mended", x.blur(1), NOT_POSSIBLE);
        x.begin();
        due("blur(1) at work", x.blur(1), NOT_POSSIBLE);
        x.flood();
        due("blur(1) behind the next flood", x.blur(1), 3);
    }

    // Promise 9, "mending has begun since the last one": a mending that is refused, or undone, has not begun.
    static void p09ARefusedMendingHasNotBegun() {
        FloodDiary x = made("b;w0>0=1;s2;x");
        due("mend(0)", x.mend(0), BAD_VALUE);
        due("mend(1000)", x.mend(1000), BAD_VALUE);
        due("blur(1)", x.blur(1), 1);
        due("mend(1)", x.mend(1), 1);
        due("undo()", x.undo(), 2);
        due("blur(1)", x.blur(1), 0);
    }

    // Promise 9, "NOT_POSSIBLE if ... there are not so many entries"
    static void p09NotSoManyEntries() {
        FloodDiary x = made("b;w0>0=1;w0>1=1;w0>2=1;s4;x");
        due("blur(5) of 4", x.blur(5), NOT_POSSIBLE);
        due("blur(4) of 4", x.blur(4), 0);
        dueCounts(x, 0, 0, 0, 1, 1, 0, 4, 0, 0);
        due("blur(1) of none", x.blur(1), NOT_POSSIBLE);
        due("blur(1) of an empty diary", made("x").blur(1), NOT_POSSIBLE);
    }

    // Promise 9, "NOT_POSSIBLE if ... a page on the shelf has the mark of one of them": the last of them, the first,
    // and the entry ahead of them.
    static void p09AMarkOfOneOfThem() {
        FloodDiary x = made("b;w0>0=1;w0>1=2;w0>2=3;w0>3=4;w0>4=5;w0>5=6;p3;s7;x");
        due("ofPage(3, 1)", x.ofPage(3, 1), 5);
        due("blur(5), the mark is amid them", x.blur(5), NOT_POSSIBLE);
        due("blur(3), the mark is the first of them", x.blur(3), NOT_POSSIBLE);
        due("blur(2), the mark is ahead of them", x.blur(2), 5);
        due("blur(1), the mark is the only one of them", x.blur(1), NOT_POSSIBLE);
        due("count(1)", x.count(1), 5);
    }

    // Promise 9, "a page on the shelf has the mark of one of them": each page, 0 to 7.
    static void p09TheMarkOfEachPage() {
        for (int page = 0; page < 8; page++) {
            FloodDiary x = made("b;w0>" + page + "=5;p" + page + ";x");
            due("blur(1), page " + page, x.blur(1), NOT_POSSIBLE);
            x = made("b;w0>" + page + "=5;p" + page + ";w0>" + page + "=6;s3;x");
            due("blur(1), page " + page, x.blur(1), 2);
        }
    }

    // Promise 9, "a page on the shelf has the mark of one of them": a page that is not put away has the mark 0.
    static void p09PagesThatAreNotPutAway() {
        FloodDiary x = made("b;w0>0=1;w0>1=1;s3;x");
        due("blur(3)", x.blur(3), 0);
    }

    // Promise 9, the order of its errors: BAD_VALUE, NOT_POSSIBLE.
    static void p09OrderOfErrors() {
        FloodDiary x = made("b;w0>0=1;p0;s2");
        due("blur(6) without a flood", x.blur(6), BAD_VALUE);
        due("blur(5) without a flood", x.blur(5), NOT_POSSIBLE);
        x.flood();
        due("blur(6), a mark, not so many", x.blur(6), BAD_VALUE);
        due("blur(0), a mark", x.blur(0), BAD_VALUE);
        due("blur(1), a mark", x.blur(1), NOT_POSSIBLE);
        x.mend(1);
        due("blur(0), mending has begun", x.blur(0), BAD_VALUE);
    }

    // "(What a blurred entry finished is not finished then ...)": DONE, LEFT and BEGUN are lost.
    static void p09WhatABlurredEntryFinished() {
        FloodDiary x = made("b;w0>0=1;f0;x");
        due("blur(1), DONE", x.blur(1), 2);
        dueWork(x, 0, OPEN, 2, 2, 1, 2);
        due("mend(999): one again, two back", x.mend(999), 3);
        due("ofPage(0, 3)", x.ofPage(0, 3), 0);
        x = made("b;w0>0=1;t0;s4;x");
        due("blur(1), LEFT", x.blur(1), 3);
        dueWork(x, 0, OPEN, 3, 3, 1, 1);
        due("blur(1), BACK", x.blur(1), 2);
        dueWork(x, 0, OPEN, 2, 2, 1, 2);
        due("blur(2), BEGUN", x.blur(2), 0);
        due("ofWork(0, 0)", x.ofWork(0, 0), NO_SUCH);
    }

    // "with all that a flood does by that": entries stay saved up to the last one; "(blurring is none)": no flood.
    static void p09WhatIsSavedAndCounted() {
        FloodDiary x = made("b;b;b;s3;x");
        due("blur(2)", x.blur(2), 1);
        dueCounts(x, 1, 1, 1, 1, 1, 0, 2, 0, 1);
        due("mend(999)", x.mend(999), 1);
        dueCounts(x, 1, 2, 2, 0, 1, 1, 2, 0, 0);
    }

    // Promise 10, "`steps`: 1 to 999"; "BAD_VALUE if steps is out of range"
    static void p10From1To999() {
        FloodDiary x = made("b;w0>0=1;f0;x");
        for (int steps : new int[] {0, 1000, -1, LOWEST, HIGHEST}) {
            due("mend(" + steps + ")", x.mend(steps), BAD_VALUE);
        }
        due("count(3)", x.count(3), 1);
        due("mend(1)", x.mend(1), 1);
        x.flood();
        due("mend(999)", x.mend(999), 1);
    }

    // Promise 10, "NOT_POSSIBLE if nothing has to be mended"
    static void p10NothingHasToBeMended() {
        FloodDiary x = made("b;f0");
        due("mend(1) without a flood", x.mend(1), NOT_POSSIBLE);
        x.flood();
        due("mend(1) behind a flood", x.mend(1), 0);
        due("mend(1) when it is mended", x.mend(1), NOT_POSSIBLE);
        x.flood();
        x.undo();
        due("mend(1) when the flood is undone", x.mend(1), NOT_POSSIBLE);
    }

    // Promise 10, the order of its errors: BAD_VALUE, NOT_POSSIBLE.
    static void p10OrderOfErrors() {
        FloodDiary x = made("b");
        due("mend(0)", x.mend(0), BAD_VALUE);
        due("mend(1000)", x.mend(1000), BAD_VALUE);
        due("mend(999)", x.mend(999), NOT_POSSIBLE);
    }

    // Promise 10, "by so many steps at most": fewer than are left, just as many, more.
    static void p10SoManyStepsAtMost() {
        FloodDiary x = made("b;w0>0=1;w0>1=2;f0;b;s5");
        due("stepsToMend()", x.stepsToMend(), 3);
        x.flood();
        due("mend(2) of 3", x.mend(2), 2);
        due("count(3)", x.count(3), 1);
        x.flood();
        due("mend(3) of 3", x.mend(3), 3);
        due("count(3)", x.count(3), 0);
        x.flood();
        due("mend(4) of 2, the work is TORN now", x.mend(4), 2);
        due("count(3)", x.count(3), 0);
        due("count(5)", x.count(5), 7);
    }

    // "As soon as nothing is left to do in mending, it is mended": by the last step, not by the next call.
    static void p10MendedByTheLastStep() {
        FloodDiary x = made("b;w0>0=1;f0;x;m1");
        due("count(3), the last step is to do again", x.count(3), 0);
        x = made("b;w0>0=1;s2;x;m2");
        due("count(3)", x.count(3), 1);
        due("mend(1), LEFT", x.mend(1), 1);
        due("count(3), the last step is to take back", x.count(3), 0);
        due("mend(1)", x.mend(1), NOT_POSSIBLE);
    }

    // "(if there was nothing from the beginning on, by a mending without steps)"
    static void p10MendedWithoutSteps() {
        FloodDiary x = made("b;f0;b;t1;s4;x");
        due("count(3), not before it", x.count(3), 1);
        due("stepsToMend()", x.stepsToMend(), 0);
        due("mend(999)", x.mend(999), 0);
        dueCounts(x, 2, 4, 4, 0, 1, 0, 0, 0, 0);
        x = made("b;x;m1");
        dueCounts(x, 0, 0, 0, 0, 1, 0, 1, 0, 0);
    }

    // "and all entries are saved": only as soon as it is mended.
    static void p10AllEntriesAreSavedAtTheEnd() {
        FloodDiary x = made("b;w0>0=1;s2;x;m2");
        due("count(1)", x.count(1), 3);
        due("count(2)", x.count(2), 2);
        due("ofEntry(3, 7)", x.ofEntry(3, 7), 0);
        x.mend(1);
        due("count(1)", x.count(1), 4);
        due("count(2)", x.count(2), 4);
        due("ofEntry(4, 7)", x.ofEntry(4, 7), 1);
    }

    // "if the mark of the page in hand is less than the number of the entry": not if it is equal, or greater.
    static void p10TheMarkOfThePageInHand() {
        FloodDiary x = made("b;w0>0=1;w0>0=2;p0;w0>0=3;f0;x");
        due("mend(1), 3 is greater than 2", x.mend(1), 1);
        duePage(x, 0, 2, 3, 1, 2, 3, 0);
        due("mend(1), 3 is equal", x.mend(1), 1);
        duePage(x, 0, 2, 3, 1, 2, 3, 0);
        due("mend(1), 3 is less than 4", x.mend(1), 1);
        duePage(x, 0, 2, 3, 1, 3, 4, 1);
    }

    // "Each such entry is a step, whether the page changes by it or not."
    static void p10AStepThoughThePageDoesNotChange() {
        FloodDiary x = made("b;w0>0=1;w0>0=1;w0>0=2;p0;f0;x");
        due("stepsToMend()", x.stepsToMend(), 3);
        due("mend(999)", x.mend(999), 3);
        due("count(5)", x.count(5), 3);
    }

    // "for each WRITTEN and BACK that the diary had behind the flood": no BEGUN, DONE or LEFT; no BACK made by mending.
    static void p10WhatIsDoneAgain() {
        FloodDiary x = made("b;w0>0=1;t0;b;w1>1=2;f1;b;w2>2=3;s9;x");
        due("3 WRITTEN and 1 BACK again, 1 back, LEFT", x.stepsToMend(), 6);
        x.mend(4);
        duePage(x, 0, 0, 0, 1, 0, 3);
        duePage(x, 1, 0, 0, 1, 2, 6);
        duePage(x, 2, 0, 0, 1, 3, 9);
        due("count(1)", x.count(1), 9);
        due("mend(1)", x.mend(1), 1);
        due("count(1)", x.count(1), 10);
        due("stepsToMend(), LEFT alone", x.stepsToMend(), 1);
    }

    // "of those the one whose entry to go on with has the greatest number takes a step back"
    static void p10TheGreatestNumberIsTakenBackFirst() {
        FloodDiary x = made("b;b;w1>0=1;w0>1=2;b;s5;x;m2");
        int[] works = {2, 0, 1, 1, 0};
        int[] kinds = {LEFT, BACK, BACK, LEFT, LEFT};
        for (int step = 0; step < 5; step++) {
            due("mend(1)", x.mend(1), 1);
            due("ofEntry(" + (6 + step) + ", 0)", x.ofEntry(6 + step, 0), kinds[step]);
            due("ofEntry(" + (6 + step) + ", 1)", x.ofEntry(6 + step, 1), works[step]);
        }
        due("count(3)", x.count(3), 0);
    }

    // "(For a work whose last entry is a BACK this is the one that it tells; otherwise its last one.)": the BACK's own
    // number, though it is the greatest, does not count.
    static void p10TheNumberThatABackTells() {
        FloodDiary x = made("b;w0>0=1;b;w1>1=2;w0>0=3;s5;x;m3");
        x.mend(1);
        due("ofEntry(6, 1), work 0: 5 against 4", x.ofEntry(6, 1), 0);
        x.mend(1);
        due("ofEntry(7, 1), work 1: 4 against 2", x.ofEntry(7, 1), 1);
        x.mend(1);
        due("ofEntry(8, 1), work 1: 3 against 2", x.ofEntry(8, 1), 1);
        due("ofEntry(8, 0)", x.ofEntry(8, 0), LEFT);
    }

    // "(If mending stops amid its steps, pages in hand and entries stay as they are; it goes on there the next time.)"
    static void p10ItGoesOnWhereItStopped() {
        FloodDiary x = made("b;w0>0=1;w0>0=2;w0>1=3;s4;x");
        int[] marks = {2, 3, 3, 3, 6, 7};
        for (int step = 0; step < 6; step++) {
            due("mend(1)", x.mend(1), 1);
            due("ofPage(0, 4) behind step " + step, x.ofPage(0, 4), marks[step]);
            due("stepsToMend() behind step " + step, x.stepsToMend(), 6 - step);
        }
        due("mend(1), LEFT", x.mend(1), 1);
        due("count(5)", x.count(5), 7);
        due("count(3)", x.count(3), 0);
    }

    // "Behind a flood it begins anew.": from the first entry on, behind any number of steps.
    static void p10BehindAFloodItBeginsAnew() {
        for (int steps = 1; steps <= 6; steps++) {
            FloodDiary x = made("b;w0>0=1;w0>0=2;w0>1=3;s4;x;m" + steps);
            due("flood() behind " + steps, x.flood(), Math.max(0, steps - 3));
            due("count(1)", x.count(1), 4);
            due("stepsToMend()", x.stepsToMend(), 7);
            due("mend(999)", x.mend(999), 7);
            due("count(5)", x.count(5), 7 + steps);
        }
    }

    // "at most 150 (but mending can make more)"
    static void p10MendingMakesMoreThan150Entries() {
        FloodDiary x = written(75);
        x.save(76);
        x.flood();
        due("mend(149)", x.mend(149), 149);
        due("count(1)", x.count(1), 150);
        due("mend(1), the 151st entry", x.mend(1), 1);
        due("count(1)", x.count(1), 151);
        due("count(3)", x.count(3), 1);
        due("mend(1), LEFT", x.mend(1), 1);
        dueCounts(x, 1, 152, 152, 0, 1, 151);
        dueEntry(x, 152, LEFT, 0, 151);
    }

    // "(but mending can make more)": as many as can be, 150 for 150; and what is told of them.
    static void p10AsManyAsCanBe() {
        FloodDiary x = written(149);
        x.save(150);
        x.flood();
        due("mend(999)", x.mend(999), 149 + 150);
        dueCounts(x, 1, 300, 300, 0, 1, 299);
        dueEntry(x, 300, LEFT, 0, 299, NONE, NONE, NONE, NONE, 1);
        dueEntry(x, 299, BACK, 0, 298, 0, NONE, 0, 1, 1);
        due("ofEntry(301, 0)", x.ofEntry(301, 0), NO_SUCH);
        due("ofWork(0, 2)", x.ofWork(0, 2), 300);
        due("stepsToMend()", x.stepsToMend(), 298);
        due("firstNeeded()", x.firstNeeded(), 2);
        due("putAway(0)", x.putAway(0), 300);
        due("putAway(1)", x.putAway(1), 300);
        due("firstNeeded()", x.firstNeeded(), NONE);
        due("flood()", x.flood(), 0);
        due("blur(1)", x.blur(1), 299);
        due("blur(1), the mark of page 0", x.blur(1), NOT_POSSIBLE);
        due("mend(999), 298 again, LEFT", x.mend(999), 299);
    }

    // "(but mending can make more)": with 16 works of 150 entries.
    static void p10SixteenWorks() {
        FloodDiary x = made("b;b;b;b;b;b;b;b;b;b;b;b;b;b;b;b");
        for (int i = 0; i < 134; i++) {
            due("write", x.write(i % 8, i % 8, 500 + i), i < 8 ? 0 : 500 + i - 8);
        }
        x.save(150);
        x.flood();
        due("mend(134), doing again", x.mend(134), 134);
        due("count(7)", x.count(7), 255);
        due("mend(999)", x.mend(999), 134 + 16);
        dueCounts(x, 16, 300, 300, 0, 1, 284, 0, 255, 0);
        due("ofWork(15, 1), the last that began is LEFT ahead of the others", x.ofWork(15, 1), 285);
        due("ofWork(0, 1)", x.ofWork(0, 1), 300);
        due("ofPage(7, 3)", x.ofPage(7, 3), 0);
    }
}
