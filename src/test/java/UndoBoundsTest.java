/** The bounds that promises 23 to 25 name: a test for each sentence, which stands above it. */
public final class UndoBoundsTest extends Told {
    private UndoBoundsTest() { }

    public static void main(String[] args) {
        runAll(UndoBoundsTest.class);
    }

    // Promise 23, "NOT_POSSIBLE if there is none"
    static void p23AnEmptyHistory() {
        FloodDiary x = new FloodDiary();
        due("undo() of a new object", x.undo(), NOT_POSSIBLE);
        x.begin();
        due("undo()", x.undo(), 0);
        due("undo()", x.undo(), NOT_POSSIBLE);
        due("undo() once more", x.undo(), NOT_POSSIBLE);
        due("count(10)", x.count(10), 0);
        due("begin()", x.begin(), 0);
    }

    // Promise 23, "A history of at most 6 states is kept"
    static void p23SixStates() {
        FloodDiary x = new FloodDiary();
        for (int changes = 1; changes <= 6; changes++) {
            x.begin();
            due("count(10)", x.count(10), changes);
        }
        for (int left = 5; left >= 0; left--) {
            due("undo()", x.undo(), left);
            due("count(0)", x.count(0), left);
        }
        due("undo()", x.undo(), NOT_POSSIBLE);
    }

    // Promise 23, "when one more is recorded, the oldest one is dropped"
    static void p23TheOldestIsDropped() {
        FloodDiary x = new FloodDiary();
        for (int changes = 1; changes <= 7; changes++) {
            x.begin();
        }
        due("count(10)", x.count(10), 6);
        for (int left = 5; left >= 0; left--) {
            due("undo()", x.undo(), left);
            due("count(0)", x.count(0), left + 1);
        }
        due("undo(), the first one was dropped", x.undo(), NOT_POSSIBLE);
        due("count(0)", x.count(0), 1);
    }

    // Promise 23, "the oldest one is dropped": any number of times, also behind undo().
    static void p23DroppedManyTimes() {
        FloodDiary x = new FloodDiary();
        x.begin();
        for (int value = 1; value <= 40; value++) {
            x.write(0, 0, value);
            if (value % 3 == 0) {
                due("undo()", x.undo(), value == 3 ? 3 : 5);
                due("ofPage(0, 3)", x.ofPage(0, 3), value - 1);
            }
        }
        int[] values = {38, 37, 35, 34, 32, 31};
        for (int i = 0; i < 6; i++) {
            due("undo()", x.undo(), 5 - i);
            due("ofPage(0, 3)", x.ofPage(0, 3), values[i]);
        }
        due("undo()", x.undo(), NOT_POSSIBLE);
    }

    // Promise 23, "each method that is a change, and returns no error, records the state before it": each of them.
    static void p23MethodsThatAreChanges() {
        FloodDiary x = new FloodDiary();
        due("begin()", x.begin(), 0);
        due("count(10)", x.count(10), 1);
        due("write(0, 0, 1)", x.write(0, 0, 1), 0);
        due("count(10)", x.count(10), 2);
        due("save(1)", x.save(1), 1);
        due("count(10)", x.count(10), 3);
        due("putAway(0)", x.putAway(0), 2);
        due("count(10)", x.count(10), 4);
        due("tear(0)", x.tear(0), 2);
        due("count(10)", x.count(10), 5);
        due("begin()", x.begin(), 1);
        due("count(10)", x.count(10), 6);
        x = new FloodDiary();
        x.begin();
        due("finish(0)", x.finish(0), 2);
        due("count(10)", x.count(10), 2);
        due("flood()", x.flood(), 0);
        due("count(10)", x.count(10), 3);
        due("blur(1)", x.blur(1), 1);
        due("count(10)", x.count(10), 4);
        due("mend(1)", x.mend(1), 1);
        due("count(10)", x.count(10), 5);
        due("carryOut()", carryPad(x, "b"), 1);
        due("count(10)", x.count(10), 6);
        x = new FloodDiary();
        x.keep(1);
        due("bring(1)", x.bring(1), 0);
        due("count(10)", x.count(10), 1);
    }

    // Promise 23, "(also if nothing is different then)"
    static void p23ThoughNothingIsDifferent() {
        FloodDiary x = made("b;w0>0=1;s2;p0");
        due("save(1), saved farther already", x.save(1), 2);
        due("count(10)", x.count(10), 2);
        due("putAway(0), put away already", x.putAway(0), 2);
        due("count(10)", x.count(10), 3);
        x.keep(0);
        due("bring(0), what is there", x.bring(0), 2);
        due("count(10)", x.count(10), 4);
        due("carryOut(), none is carried out", carryPad(x, "f9"), 0);
        due("count(10)", x.count(10), 5);
        due("undo()", x.undo(), 4);
        due("undo()", x.undo(), 3);
        due("undo()", x.undo(), 2);
        due("undo()", x.undo(), 1);
        dueCounts(x, 1, 2, 2, 0, 0, 0, 0, 0, 1, 0, 1);
    }

    // Promise 23, "each method that is a change, and returns no error": an error is not recorded, and drops nothing.
    static void p23AnErrorIsNotRecorded() {
        FloodDiary x = new FloodDiary();
        for (int i = 0; i < 6; i++) {
            x.begin();
        }
        due("write", x.write(0, 8, 0), NO_SUCH);
        due("finish", x.finish(6), NO_SUCH);
        due("tear", x.tear(-1), NO_SUCH);
        due("save", x.save(7), NO_SUCH);
        due("putAway", x.putAway(0), NOT_POSSIBLE);
        due("blur", x.blur(1), NOT_POSSIBLE);
        due("mend", x.mend(1), NOT_POSSIBLE);
        due("carryOut", x.carryOut(), BAD_TEXT);
        due("bring", x.bring(0), NOT_POSSIBLE);
        due("count(10)", x.count(10), 6);
        for (int left = 5; left >= 0; left--) {
            due("undo()", x.undo(), left);
            due("count(0)", x.count(0), left);
        }
    }

    // Promise 23, "and returns no error": nor is an error recorded while there is room, whichever it is.
    static void p23NoErrorIsRecordedWhileThereIsRoom() {
        FloodDiary x = written(148);
        x.begin();
        x.undo();
        x.undo();
        x.undo();
        x.begin();
        x.begin();
        due("count(10)", x.count(10), 5);
        due("NO_SUCH", x.finish(5), NO_SUCH);
        due("count(10)", x.count(10), 5);
        due("BAD_VALUE", x.write(0, 0, 1000), BAD_VALUE);
        due("count(10)", x.count(10), 5);
        due("BAD_TEXT", x.carryOut(), BAD_TEXT);
        due("count(10)", x.count(10), 5);
        due("TOO_MANY", x.tear(0), TOO_MANY);
        due("count(10)", x.count(10), 5);
        due("NOT_POSSIBLE", x.mend(1), NOT_POSSIBLE);
        due("count(10)", x.count(10), 5);
        due("undo()", x.undo(), 4);
        due("count(0)", x.count(0), 2);
    }

    // Promise 23, "when one more is recorded, the oldest one is dropped": also by changes that answer 0.
    static void p23TheOldestIsDroppedByAnAnswerOf0() {
        FloodDiary x = new FloodDiary();
        x.begin();
        for (int page = 0; page < 8; page++) {
            due("write(0, " + page + ", 1)", x.write(0, page, 1), 0);
        }
        for (int left = 5; left >= 0; left--) {
            due("undo()", x.undo(), left);
            due("count(1)", x.count(1), 3 + left);
            due("ofPage(" + (2 + left) + ", 2)", x.ofPage(2 + left, 2), 0);
            due("ofPage(" + (1 + left) + ", 2)", x.ofPage(1 + left, 2), 1);
        }
    }

    // Promise 23, "when one more is recorded, the oldest one is dropped": one, by a text of many orders or of none.
    static void p23ATextDropsOneStateOnly() {
        for (String text : new String[] {"b;b;b;b;b;b;b;b", "f9;b"}) {
            FloodDiary x = new FloodDiary();
            for (int i = 0; i < 6; i++) {
                x.begin();
            }
            x.wipe();
            carryPad(x, text);
            due("count(10)", x.count(10), 6);
            for (int left = 5; left >= 0; left--) {
                due("undo()", x.undo(), left);
                due("count(0)", x.count(0), left + 1);
            }
        }
    }

    // Promise 23, "each method that is a change": the others record nothing.
    static void p23MethodsThatAreNoChanges() {
        FloodDiary x = made("b;w0>0=1");
        x.ofPage(0, 0);
        x.ofWork(0, 0);
        x.ofEntry(1, 0);
        x.count(0);
        x.stepsToMend();
        x.wouldBe(0);
        x.firstNeeded();
        x.settled(0);
        x.put('b');
        x.fault();
        x.wipe();
        x.keep(0);
        due("count(10)", x.count(10), 1);
        due("undo()", x.undo(), 0);
        due("count(0)", x.count(0), 0);
    }

    // Promise 23, "everything except the pad, the slots and the history is as it was before it"
    static void p23ThePadAndTheSlotsStay() {
        FloodDiary x = made("b;w0>0=1");
        x.write(0, 0, 2);
        x.keep(0);
        type(x, "b;b");
        due("undo()", x.undo(), 1);
        due("ofPage(0, 3)", x.ofPage(0, 3), 1);
        due("count(9)", x.count(9), 3);
        due("bring(0)", x.bring(0), 3);
        due("ofPage(0, 3)", x.ofPage(0, 3), 2);
        due("carryOut()", x.carryOut(), 2);
        due("undo()", x.undo(), 2);
        due("count(9), the pad stays empty", x.count(9), 0);
    }

    // Promise 23, "everything ... is as it was before it": how far mending has come, and what is counted so far.
    static void p23MendingIsAsItWas() {
        FloodDiary x = made("b;w0>0=1;w0>1=2;s3;x");
        x.mend(1);
        x.mend(2);
        due("stepsToMend()", x.stepsToMend(), 2);
        due("undo()", x.undo(), 2);
        due("stepsToMend()", x.stepsToMend(), 4);
        due("count(5)", x.count(5), 1);
        due("mend(1)", x.mend(1), 1);
        duePage(x, 1, 0, 0, 1, 2, 3, 1);
        due("undo()", x.undo(), 2);
        due("undo()", x.undo(), 1);
        due("stepsToMend()", x.stepsToMend(), 5);
        due("blur(1), mending has not begun", x.blur(1), 2);
        due("count(6)", x.count(6), 1);
        due("undo()", x.undo(), 1);
        due("count(6)", x.count(6), 0);
        due("ofEntry(3, 5)", x.ofEntry(3, 5), 2);
    }

    /** A diary of which each change makes something different; it is new for each, so that no old state is there. */
    private static FloodDiary beforeAChange() {
        return made("b;b;w0>2=5;w0>2=6;s1");
    }

    private static void dueAsBeforeIt(FloodDiary x) {
        due("undo()", x.undo(), 1);
        dueCounts(x, 2, 4, 1, 0, 0, 0, 0, 4, 3, 0, 1);
        duePage(x, 2, 0, 0, 1, 6, 4, 1, 0);
        duePage(x, 3, 0, 0, 0, NONE, NONE, 0, NONE);
        dueWork(x, 0, OPEN, 4, 3, 4, 4);
        dueWork(x, 1, OPEN, 2, 1, 0, 2);
        dueEntry(x, 4, WRITTEN, 0, 3, 2, 5, 6, NONE, 0);
        due("ofEntry(5, 0)", x.ofEntry(5, 0), NO_SUCH);
    }

    // Promise 23, "Undoes the latest change: everything ... is as it was before it": each change, begin() to carryOut().
    static void p23EachChangeIsUndone() {
        FloodDiary x = beforeAChange();
        due("begin()", x.begin(), 2);
        dueAsBeforeIt(x);
        x = beforeAChange();
        due("write(0, 2, 7)", x.write(0, 2, 7), 6);
        dueAsBeforeIt(x);
        x = beforeAChange();
        due("write(1, 3, 7)", x.write(1, 3, 7), 0);
        dueAsBeforeIt(x);
        x = beforeAChange();
        due("finish(0)", x.finish(0), 5);
        dueAsBeforeIt(x);
        x = beforeAChange();
        due("tear(0)", x.tear(0), 3);
        dueAsBeforeIt(x);
        x = beforeAChange();
        due("save(3)", x.save(3), 3);
        dueAsBeforeIt(x);
        x = beforeAChange();
        due("putAway(2)", x.putAway(2), 4);
        dueAsBeforeIt(x);
        x = beforeAChange();
        due("flood()", x.flood(), 3);
        dueAsBeforeIt(x);
        x = beforeAChange();
        due("carryOut()", carryPad(x, "t0;t1;x;m1"), 4);
        dueAsBeforeIt(x);
        x = new FloodDiary();
        x.keep(0);
        carry(x, "b;b;w0>2=5;w0>2=6;s1");
        due("bring(0)", x.bring(0), 0);
        dueAsBeforeIt(x);
    }

    // Promise 23, "everything ... is as it was before it": blur() and mend(), which can only be done behind a flood.
    static void p23BlurringAndMendingAreUndone() {
        FloodDiary x = made("b;w0>2=5;w0>2=6;s3;x");
        due("blur(2)", x.blur(2), 1);
        due("undo()", x.undo(), 1);
        dueCounts(x, 1, 3, 3, 1, 1, 0, 0, 0, 1, 0, 1);
        dueEntry(x, 3, WRITTEN, 0, 2, 2, 5, 6, NONE, 1);
        x = made("b;w0>2=5;w0>2=6;s3;x");
        due("mend(3)", x.mend(3), 3);
        due("undo()", x.undo(), 1);
        dueCounts(x, 1, 3, 3, 1, 1, 0, 0, 0, 1, 0, 1);
        duePage(x, 2, 0, 0, 0, NONE, NONE, 0, NONE);
        due("ofEntry(4, 0)", x.ofEntry(4, 0), NO_SUCH);
        due("mend(999)", x.mend(999), 5);
    }

    // Promise 23, "everything ... is as it was before it": bring(), too, is undone as a whole.
    static void p23BringingIsUndone() {
        FloodDiary x = made("b;w0>2=5;t0");
        x.keep(0);
        carry(x, "b;w1>2=7;f1;x");
        due("bring(0)", x.bring(0), 4);
        due("undo()", x.undo(), 2);
        dueCounts(x, 2, 7, 7, 1, 1, 0, 0, 0, 0, 0, 2);
        due("ofEntry(7, 0)", x.ofEntry(7, 0), DONE);
        due("ofPage(2, 2)", x.ofPage(2, 2), 0);
    }

    // Promise 23, "everything ... is as it was before it": all of an entry whose number was given again meanwhile.
    static void p23AnEntryWhoseNumberWasGivenAgain() {
        FloodDiary x = made("b;w0>2=5;t0");
        x.keep(1);
        x.flood();
        x.mend(1);
        x.begin();
        x.write(0, 4, 8);
        x.write(0, 4, 9);
        dueEntry(x, 3, WRITTEN, 0, 2, 4, 8, 9, NONE, 0);
        for (int left = 5; left >= 1; left--) {
            due("undo()", x.undo(), left);
        }
        dueEntry(x, 3, BACK, 0, 2, 2, NONE, 0, 1, 0);
        dueEntry(x, 4, LEFT, 0, 3, NONE, NONE, NONE, NONE, 0);
    }

    // Promise 23: undo() of a change of a full diary, and of one beyond 150 entries.
    static void p23AFullDiary() {
        FloodDiary x = written(149);
        due("undo()", x.undo(), 5);
        due("count(1)", x.count(1), 149);
        due("finish(0)", x.finish(0), 150);
        due("undo()", x.undo(), 5);
        due("write(0, 5, 1)", x.write(0, 5, 1), 0);
        x.save(150);
        x.flood();
        x.mend(999);
        due("count(1)", x.count(1), 300);
        due("undo()", x.undo(), 5);
        due("count(1)", x.count(1), 150);
        due("mend(999)", x.mend(999), 299);
        due("ofEntry(300, 0)", x.ofEntry(300, 0), LEFT);
    }

    // Promise 24, "`slot`: 0 or 1"; "BAD_VALUE if there is no such slot"
    static void p24Slots0And1() {
        FloodDiary x = made("b");
        for (int slot : new int[] {-1, 2, 3, LOWEST, HIGHEST}) {
            due("keep(" + slot + ")", x.keep(slot), BAD_VALUE);
        }
        due("bring(0), nothing was kept", x.bring(0), NOT_POSSIBLE);
        due("bring(1), nothing was kept", x.bring(1), NOT_POSSIBLE);
        due("keep(0)", x.keep(0), 1);
        due("keep(1)", x.keep(1), 1);
    }

    // Promise 24, "Returns how many entries there are": of an empty diary, a full one, one of 300.
    static void p24HowManyEntries() {
        due("an empty diary", new FloodDiary().keep(0), 0);
        FloodDiary x = written(149);
        due("a full diary", x.keep(0), 150);
        x.save(150);
        x.flood();
        x.mend(999);
        due("beyond 150", x.keep(1), 300);
        due("bring(0)", x.bring(0), 150);
        due("bring(1)", x.bring(1), 300);
        due("ofEntry(300, 0)", x.ofEntry(300, 0), LEFT);
        due("ofEntry(151, 4)", x.ofEntry(151, 4), NONE);
    }

    // Promise 24, "in place of what was kept there": in this slot, not in the other one.
    static void p24InPlaceOfWhatWasKeptThere() {
        FloodDiary x = made("b");
        x.keep(0);
        x.keep(1);
        x.begin();
        due("keep(1)", x.keep(1), 2);
        due("bring(0)", x.bring(0), 1);
        due("bring(1)", x.bring(1), 2);
        x.begin();
        due("keep(0)", x.keep(0), 3);
        due("bring(1)", x.bring(1), 2);
        due("bring(0)", x.bring(0), 3);
    }

    // Promise 24: keeping is no change, and what is kept does not change with the diary.
    static void p24KeepingIsNoChange() {
        FloodDiary x = made("b;w0>0=1;w0>1=2");
        x.keep(0);
        due("count(10)", x.count(10), 1);
        x.write(0, 0, 3);
        x.putAway(0);
        x.finish(0);
        x.begin();
        due("bring(0)", x.bring(0), 3);
        dueCounts(x, 1, 3, 0, 0, 0, 0, 0, 3, 1, 0, 6);
        duePage(x, 0, 0, 0, 1, 1, 2, 1, 0);
        dueWork(x, 0, OPEN, 3, 3, 3, 3);
    }

    // Promise 25, "BAD_VALUE if there is no such slot", ahead of NOT_POSSIBLE
    static void p25OrderOfErrors() {
        FloodDiary x = made("b");
        for (int slot : new int[] {-1, 2, LOWEST, HIGHEST}) {
            due("bring(" + slot + ")", x.bring(slot), BAD_VALUE);
        }
        due("bring(0)", x.bring(0), NOT_POSSIBLE);
        due("bring(1)", x.bring(1), NOT_POSSIBLE);
        x.keep(1);
        due("bring(2)", x.bring(2), BAD_VALUE);
        due("bring(0)", x.bring(0), NOT_POSSIBLE);
        due("bring(1)", x.bring(1), 1);
    }

    // Promise 25, "NOT_POSSIBLE if nothing was kept in it": an empty diary that was kept is something.
    static void p25AnEmptyDiaryThatWasKept() {
        FloodDiary x = new FloodDiary();
        x.keep(0);
        x.begin();
        due("bring(0)", x.bring(0), 0);
        dueCounts(x, 0, 0, 0, 0, 0, 0, 0, 0, 0, 0, 2);
        due("bring(1)", x.bring(1), NOT_POSSIBLE);
    }

    // Promise 25, "Brings back what was kept": all of an entry whose number was given again meanwhile.
    static void p25AnEntryWhoseNumberWasGivenAgain() {
        FloodDiary x = made("b;w0>2=5;t0");
        x.keep(1);
        carry(x, "x;m1;b;b;w1>4=8;w1>4=9");
        dueEntry(x, 3, WRITTEN, 1, 2, 4, 0, 8, NONE, 0);
        due("bring(1)", x.bring(1), 4);
        dueEntry(x, 3, BACK, 0, 2, 2, NONE, 0, 1, 0);
        dueEntry(x, 4, LEFT, 0, 3, NONE, NONE, NONE, NONE, 0);
        due("ofEntry(5, 0)", x.ofEntry(5, 0), NO_SUCH);
    }

    // Promise 25, "which keeps it": however often it is brought back, and whatever is done then.
    static void p25TheSlotKeepsIt() {
        FloodDiary x = made("b;w0>0=1");
        x.keep(1);
        for (int i = 0; i < 8; i++) {
            x.write(0, 0, 50 + i);
            x.finish(0);
            due("bring(1)", x.bring(1), 2);
            due("ofPage(0, 3)", x.ofPage(0, 3), 1);
            due("ofWork(0, 0)", x.ofWork(0, 0), OPEN);
        }
        due("undo()", x.undo(), 5);
        due("ofPage(0, 3)", x.ofPage(0, 3), 57);
        due("bring(1), undone it can be brought again", x.bring(1), 2);
    }

    // Promise 25, "Brings back what was kept": all but the pad, the history and the slots.
    static void p25ThePadAndTheHistoryStay() {
        FloodDiary x = made("b;w0>0=1");
        type(x, "b");
        x.keep(0);
        x.wipe();
        type(x, "b;b");
        x.begin();
        due("bring(0)", x.bring(0), 2);
        due("count(9)", x.count(9), 3);
        due("count(10)", x.count(10), 3);
        due("undo()", x.undo(), 2);
        due("count(0)", x.count(0), 2);
    }

    // Promise 25, "Brings back what was kept": amid mending, and from there on into a diary where nothing is to be mended.
    static void p25AmidMending() {
        FloodDiary x = made("b;w0>0=1;w0>1=2;s3;x");
        x.keep(0);
        x.mend(3);
        x.keep(1);
        x.mend(999);
        due("count(3)", x.count(3), 0);
        due("bring(1)", x.bring(1), 4);
        due("count(3)", x.count(3), 1);
        due("count(2), the BACK is not saved", x.count(2), 3);
        due("blur(1), mending has begun", x.blur(1), NOT_POSSIBLE);
        due("stepsToMend()", x.stepsToMend(), 2);
        due("bring(0)", x.bring(0), 3);
        due("blur(1), mending has not begun", x.blur(1), 2);
    }
}
