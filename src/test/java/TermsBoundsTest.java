/** The bounds that the document's terms name: a test for each sentence, which stands above it. */
public final class TermsBoundsTest extends Told {
    private TermsBoundsTest() { }

    public static void main(String[] args) {
        runAll(TermsBoundsTest.class);
    }

    // "An object is used for at most 512 calls after it has been made"
    static void theLast12CallsOf512() {
        FloodDiary x = new FloodDiary();
        x.begin();
        x.write(0, 0, 1);
        for (int call = 3; call <= 500; call += 2) {
            x.write(0, 0, call);
            x.undo();
        }
        due("count(10), call 501", x.count(10), 2);
        due("write(0, 0, 9), call 502", x.write(0, 0, 9), 1);
        due("save(3), call 503", x.save(3), 3);
        due("flood(), call 504", x.flood(), 0);
        due("mend(3), call 505", x.mend(3), 3);
        due("count(10), call 506", x.count(10), 6);
        due("undo(), call 507", x.undo(), 5);
        due("mend(999), call 508", x.mend(999), 5);
        due("keep(0), call 509", x.keep(0), 6);
        due("put(98), call 510", x.put(98), 1);
        due("carryOut(), call 511", x.carryOut(), 1);
        due("count(1), call 512", x.count(1), 7);
    }

    // "NONE (-6) is not an error; it is returned only if no error applies."
    static void noneIsReturnedOnlyIfNoErrorApplies() {
        FloodDiary x = made("b");
        due("ofPage(0, 3)", x.ofPage(0, 3), NONE);
        due("ofPage(8, 3)", x.ofPage(8, 3), NO_SUCH);
        due("ofPage(0, 6)", x.ofPage(0, 6), NONE);
        due("ofPage(-1, 6)", x.ofPage(-1, 6), NO_SUCH);
        due("ofEntry(1, 3)", x.ofEntry(1, 3), NONE);
        due("ofEntry(2, 3)", x.ofEntry(2, 3), NO_SUCH);
        due("firstNeeded()", x.firstNeeded(), NONE);
        type(x, "b");
        due("fault()", x.fault(), NONE);
    }

    // "NONE (-6) is not an error": a change behind which NONE is told has been recorded all the same.
    static void noneIsNoErrorOfAnOrder() {
        FloodDiary x = new FloodDiary();
        due("carryOut()", carryPad(x, "b;b;f0;f1;x;m1"), 6);
        due("count(10)", x.count(10), 1);
    }

    // "Everything is numbered from 0, but entries from 1."
    static void numbersBeginAt0AndOfEntriesAt1() {
        FloodDiary x = new FloodDiary();
        due("begin()", x.begin(), 0);
        due("ofWork(0, 1)", x.ofWork(0, 1), 1);
        due("write(0, 0, 4)", x.write(0, 0, 4), 0);
        due("finish(0)", x.finish(0), 3);
        due("ofEntry(0, 0)", x.ofEntry(0, 0), NO_SUCH);
        due("ofEntry(1, 0)", x.ofEntry(1, 0), BEGUN);
        due("save(0)", x.save(0), NO_SUCH);
        type(x, "?");
        due("fault()", x.fault(), 0);
        due("keep(0)", x.keep(0), 3);
    }

    // "Sets are bit masks."
    static void setsAreBitMasks() {
        FloodDiary x = made("b;b;b;b;b;b;b;b;b;b;b;b;b;b;b;b;w0>0=1;w15>7=2");
        due("count(7)", x.count(7), 1 | 1 << 7);
        due("count(8)", x.count(8), 0xffff);
        for (int work = 1; work < 15; work++) {
            x.finish(work);
        }
        due("count(8) of works 0 and 15", x.count(8), 1 | 1 << 15);
        due("ofWork(0, 3)", x.ofWork(0, 3), 1);
        due("ofWork(15, 3)", x.ofWork(15, 3), 1 << 7);
    }

    // "There are 8 pages, 0 to 7."
    static void pages0To7() {
        FloodDiary x = new FloodDiary();
        x.begin();
        for (int page = 0; page < 8; page++) {
            due("ofPage(" + page + ", 0)", x.ofPage(page, 0), 0);
            due("wouldBe(" + page + ")", x.wouldBe(page), 0);
            due("settled(" + page + ")", x.settled(page), 0);
            due("write(0, " + page + ", 1)", x.write(0, page, 1), 0);
            due("putAway(" + page + ")", x.putAway(page), 2 + page);
        }
        for (int page : new int[] {-1, 8, 9, 16, 31, 32, 256, LOWEST, HIGHEST}) {
            due("ofPage(" + page + ", 0)", x.ofPage(page, 0), NO_SUCH);
            due("wouldBe(" + page + ")", x.wouldBe(page), NO_SUCH);
            due("settled(" + page + ")", x.settled(page), NO_SUCH);
            due("write(0, " + page + ", 1)", x.write(0, page, 1), NO_SUCH);
            due("putAway(" + page + ")", x.putAway(page), NO_SUCH);
        }
    }

    // "On the shelf, a page has a value (0 to 999; 0 at first) and a mark (the number of an entry; 0 at first)."
    static void valueAndMarkOnTheShelfAre0AtFirst() {
        FloodDiary x = new FloodDiary();
        for (int page = 0; page < 8; page++) {
            due("ofPage(" + page + ", 0)", x.ofPage(page, 0), 0);
            due("ofPage(" + page + ", 1)", x.ofPage(page, 1), 0);
            due("ofPage(" + page + ", 2)", x.ofPage(page, 2), 0);
        }
    }

    // "On the shelf, a page has a value (0 to 999; ...)"
    static void valuesOnTheShelfAre0To999() {
        FloodDiary x = made("b;w0>0=999;w0>7=0;p0;p7");
        duePage(x, 0, 999, 2, 1, 999, 2, 0, 0);
        duePage(x, 7, 0, 3, 1, 0, 3, 0, 0);
    }

    // "it is taken into hand from the shelf, with what is there, as soon as its value or mark is ... changed by a rule"
    static void writingTakesIntoHandWithWhatIsOnTheShelf() {
        FloodDiary x = made("b");
        due("ofPage(2, 2)", x.ofPage(2, 2), 0);
        due("write(0, 2, 41), the value on the shelf", x.write(0, 2, 41), 0);
        duePage(x, 2, 0, 0, 1, 41, 2, 1);
        due("ofPage(3, 2)", x.ofPage(3, 2), 0);
    }

    // "as soon as its value or mark is asked for ... by a rule": a step of doing again asks for the mark.
    static void aStepThatChangesNothingTakesIntoHand() {
        FloodDiary x = made("b;w0>2=40;w0>2=41;p2;f0;x");
        due("ofPage(2, 2)", x.ofPage(2, 2), 0);
        due("mend(1)", x.mend(1), 1);
        duePage(x, 2, 41, 3, 1, 41, 3, 0);
    }

    // "asked for ... by a rule of this document (told as "in hand")": calls that tell are no such rule, "nothing changes".
    static void tellingTakesNoPageIntoHand() {
        FloodDiary x = made("b;w0>1=5");
        for (int what = 0; what <= 6; what++) {
            x.ofPage(3, what);
        }
        x.wouldBe(3);
        x.settled(3);
        x.stepsToMend();
        x.firstNeeded();
        due("ofPage(3, 2)", x.ofPage(3, 2), 0);
        due("ofPage(3, 3)", x.ofPage(3, 3), NONE);
        due("ofPage(3, 4)", x.ofPage(3, 4), NONE);
        due("putAway(3)", x.putAway(3), NOT_POSSIBLE);
    }

    // "A call that returns an error changes nothing": a write that is refused takes no page into hand.
    static void aRefusedWriteTakesNoPageIntoHand() {
        FloodDiary x = made("b;f0;b");
        due("write(0, 4, 1)", x.write(0, 4, 1), NOT_POSSIBLE);
        due("write(1, 4, 1000)", x.write(1, 4, 1000), BAD_VALUE);
        due("ofPage(4, 2)", x.ofPage(4, 2), 0);
        due("putAway(4)", x.putAway(4), NOT_POSSIBLE);
    }

    // "A page in hand is dirty if its mark is not that of the shelf": though its value is.
    static void dirtyByTheMarkAlone() {
        FloodDiary x = made("b;w0>4=0");
        due("ofPage(4, 0)", x.ofPage(4, 0), 0);
        due("ofPage(4, 3)", x.ofPage(4, 3), 0);
        due("ofPage(4, 5)", x.ofPage(4, 5), 1);
        x.putAway(4);
        due("ofPage(4, 5), put away", x.ofPage(4, 5), 0);
        x.write(0, 4, 0);
        due("ofPage(4, 5), written with the same value", x.ofPage(4, 5), 1);
    }

    // "A page in hand is dirty if its mark is not that of the shelf": also when taken back to the shelf's value.
    static void dirtyWhenTakenBackToTheShelfsValue() {
        FloodDiary x = made("b;w0>4=7;t0");
        due("ofPage(4, 3)", x.ofPage(4, 3), x.ofPage(4, 0));
        due("ofPage(4, 5)", x.ofPage(4, 5), 1);
    }

    // "A page in hand is dirty ...": one that is not in hand is not, whatever the shelf has.
    static void notDirtyWhenNotInHand() {
        FloodDiary x = made("b;w0>4=7;p4;w0>4=8");
        due("ofPage(4, 5)", x.ofPage(4, 5), 1);
        x.flood();
        due("ofPage(4, 5)", x.ofPage(4, 5), 0);
        due("count(7)", x.count(7), 0);
    }

    // "the number of a lost entry is given again"
    static void theNumberOfALostEntryIsGivenAgain() {
        FloodDiary x = made("b;w0>0=1;w0>0=2;s2;x");
        due("ofEntry(3, 0)", x.ofEntry(3, 0), NO_SUCH);
        due("mend(2)", x.mend(2), 2);
        dueEntry(x, 3, BACK, 0, 2, 0, NONE, 0, 1, 0);
    }

    // "has an earlier entry of the same work (its last one ahead of it; 0 if there is none)"
    static void theEarlierEntryIs0IfThereIsNone() {
        FloodDiary x = made("b;b;w0>0=1;w1>1=2;f0;t1");
        due("ofEntry(1, 2)", x.ofEntry(1, 2), 0);
        due("ofEntry(2, 2), though there are entries ahead", x.ofEntry(2, 2), 0);
        due("ofEntry(3, 2)", x.ofEntry(3, 2), 1);
        due("ofEntry(4, 2)", x.ofEntry(4, 2), 2);
        due("ofEntry(5, 2)", x.ofEntry(5, 2), 3);
        due("ofEntry(6, 2)", x.ofEntry(6, 2), 4);
        due("ofEntry(7, 2), behind a BACK", x.ofEntry(7, 2), 6);
    }

    // "BACK (2): a page, its value then (no value before), and the entry to go on with"
    static void aBackHasNoValueBefore() {
        FloodDiary x = made("b;w0>6=10;w0>6=11;t0");
        dueEntry(x, 4, BACK, 0, 3, 6, NONE, 10, 2);
        dueEntry(x, 5, BACK, 0, 4, 6, NONE, 0, 1);
    }

    // "Entries are saved up to some number; all behind it are not saved."
    static void savedUpToANumber() {
        FloodDiary x = made("b;w0>0=1;w0>0=2;w0>0=3;s3");
        due("ofEntry(1, 7)", x.ofEntry(1, 7), 1);
        due("ofEntry(3, 7)", x.ofEntry(3, 7), 1);
        due("ofEntry(4, 7)", x.ofEntry(4, 7), 0);
    }

    // "An OPEN work holds the pages on which it wrote; another work cannot write on them."
    static void anOpenWorkHoldsItsPages() {
        FloodDiary x = made("b;b;w0>0=1;w0>7=2");
        due("write(1, 0, 5)", x.write(1, 0, 5), NOT_POSSIBLE);
        due("write(1, 7, 5)", x.write(1, 7, 5), NOT_POSSIBLE);
        due("write(1, 1, 5), held by none", x.write(1, 1, 5), 0);
        due("write(0, 0, 5), held by itself", x.write(0, 0, 5), 1);
        due("write(0, 1, 5)", x.write(0, 1, 5), NOT_POSSIBLE);
        due("ofPage(0, 6)", x.ofPage(0, 6), 0);
        due("ofPage(1, 6)", x.ofPage(1, 6), 1);
        due("ofPage(2, 6)", x.ofPage(2, 6), NONE);
    }

    // "An OPEN work holds ...": one that is FINISHED or TORN does not.
    static void aWorkThatIsNotOpenHoldsNoPage() {
        FloodDiary x = made("b;b;b;w0>0=1;w1>1=2;f0;t1");
        due("ofPage(0, 6)", x.ofPage(0, 6), NONE);
        due("ofPage(1, 6)", x.ofPage(1, 6), NONE);
        due("write(2, 0, 5)", x.write(2, 0, 5), 1);
        due("write(2, 1, 6)", x.write(2, 1, 6), 0);
    }

    // "An OPEN work holds the pages ...": also one that is put away, and behind a failed write none more.
    static void aPageThatIsPutAwayIsHeldStill() {
        FloodDiary x = made("b;b;w0>0=1;p0");
        due("write(1, 0, 5)", x.write(1, 0, 5), NOT_POSSIBLE);
        due("ofPage(0, 6)", x.ofPage(0, 6), 0);
        due("ofWork(1, 3)", x.ofWork(1, 3), 0);
    }

    // "with n as the entry to go on with (at first its last one; behind a BACK, the one that this tells)"
    static void theEntryToGoOnWith() {
        FloodDiary x = made("b;w0>0=1;b;w0>1=2;s4;x;m2");
        due("ofWork(0, 4), its last one", x.ofWork(0, 4), 4);
        x.mend(1);
        due("ofWork(0, 4), behind a BACK", x.ofWork(0, 4), 2);
        due("ofWork(0, 1)", x.ofWork(0, 1), 5);
        x.mend(1);
        due("ofWork(1, 4), TORN first, as 3 is above 2", x.ofWork(1, 4), 0);
        x.mend(1);
        due("ofWork(0, 4), a BEGUN", x.ofWork(0, 4), 1);
        due("count(3)", x.count(3), 1);
        x.mend(1);
        due("ofWork(0, 4), TORN", x.ofWork(0, 4), 0);
        due("ofWork(0, 0)", x.ofWork(0, 0), TORN);
    }

    // "If it is BEGUN, LEFT is entered, and the work is TORN.": of a work that wrote nothing it is the first step.
    static void aWorkThatWroteNothingIsTornInOneStep() {
        FloodDiary x = made("b");
        due("tear(0)", x.tear(0), 1);
        dueEntry(x, 2, LEFT, 0, 1, NONE, NONE, NONE, NONE, 0);
    }

    // "(a work whose BEGUN is taken so is forgotten: ... and its number is given again)"
    static void aForgottenWorksNumberIsGivenAgain() {
        FloodDiary x = made("b;b;b;w2>0=5;s2;x");
        due("count(0)", x.count(0), 2);
        due("ofWork(1, 0)", x.ofWork(1, 0), OPEN);
        due("ofWork(2, 0)", x.ofWork(2, 0), NO_SUCH);
        x.mend(999);
        due("begin()", x.begin(), 2);
        dueWork(x, 2, OPEN, 5, 1, 0, 5);
    }

    // "Then each work is FINISHED or TORN if there is a DONE or LEFT of it, otherwise OPEN"
    static void statesBehindAFlood() {
        FloodDiary x = made("b;b;b;b;f0;t1;t2;s6;x");
        due("ofWork(0, 0), DONE", x.ofWork(0, 0), FINISHED);
        due("ofWork(1, 0), LEFT is saved", x.ofWork(1, 0), TORN);
        due("ofWork(2, 0), LEFT is lost", x.ofWork(2, 0), OPEN);
        due("ofWork(3, 0)", x.ofWork(3, 0), OPEN);
        due("count(8)", x.count(8), 4 | 8);
    }

    // "until this is done, nothing can be done but mending, floods and blurring"
    static void nothingElseCanBeDoneBehindAFlood() {
        FloodDiary x = made("b;w0>0=1;f0;b;w1>1=2;s5;x");
        dueNothingCanBeDone(x);
        x.mend(1);
        dueNothingCanBeDone(x);
        x.mend(2);
        due("stepsToMend()", x.stepsToMend(), 1);
        dueNothingCanBeDone(x);
        due("mend(1), the last step", x.mend(1), 1);
        due("begin()", x.begin(), 2);
        due("write(2, 1, 3)", x.write(2, 1, 3), 0);
        due("putAway(1)", x.putAway(1), 9);
        due("settled(1)", x.settled(1), 0);
        due("finish(2)", x.finish(2), 10);
    }

    private static void dueNothingCanBeDone(FloodDiary x) {
        due("begin()", x.begin(), NOT_POSSIBLE);
        due("write(1, 2, 3)", x.write(1, 2, 3), NOT_POSSIBLE);
        due("finish(1)", x.finish(1), NOT_POSSIBLE);
        due("tear(1)", x.tear(1), NOT_POSSIBLE);
        due("save(1)", x.save(1), NOT_POSSIBLE);
        due("putAway(0)", x.putAway(0), NOT_POSSIBLE);
        due("settled(0)", x.settled(0), NOT_POSSIBLE);
    }

    // "nothing can be done but mending, floods and blurring": a flood without entries, too, has to be mended.
    static void aFloodOfAnEmptyDiaryHasToBeMended() {
        FloodDiary x = made("x");
        due("begin()", x.begin(), NOT_POSSIBLE);
        due("count(3)", x.count(3), 1);
        due("mend(1)", x.mend(1), 0);
        due("count(3)", x.count(3), 0);
        due("begin()", x.begin(), 0);
    }
}
