/** Each promise of the document, told by hand: ordinary inputs, the edges that it names, wrong inputs. */
public final class PromisesTest extends Told {
    private PromisesTest() { }

    public static void main(String[] args) {
        newObject();
        begin();
        write();
        finish();
        tear();
        save();
        putAway();
        flood();
        blur();
        mendSteps();
        mendOrder();
        mendAnew();
        mendBeyondTheLimit();
        ofPage();
        ofWork();
        ofEntry();
        count();
        stepsToMend();
        wouldBe();
        firstNeeded();
        settled();
        put();
        wipe();
        fault();
        carryOut();
        undo();
        keep();
        bring();
        check.end();
    }

    private static void newObject() {
        check.about("promise 1");
        FloodDiary x = new FloodDiary();
        dueCounts(x, 0, 0, 0, 0, 0, 0, 0, 0, 0, 0, 0);
        for (int page = 0; page < 8; page++) {
            duePage(x, page, 0, 0, 0, NONE, NONE, 0, NONE);
        }
        due("ofWork(0, 0)", x.ofWork(0, 0), NO_SUCH);
        due("ofEntry(1, 0)", x.ofEntry(1, 0), NO_SUCH);
        new FloodDiary().begin();
        due("count(0) behind a begin() of another", x.count(0), 0);
    }

    private static void begin() {
        check.about("promise 2");
        FloodDiary x = new FloodDiary();
        for (int work = 0; work < 16; work++) {
            due("begin()", x.begin(), work);
        }
        dueCounts(x, 16, 16, 0, 0, 0, 0, 0, 0, 0xffff, 0, 6);
        dueEntry(x, 16, 0, 15, 0, NONE, NONE, NONE, NONE, 0);
        due("17th begin()", x.begin(), TOO_MANY);
        x.finish(3);
        due("17th begin(), one is finished", x.begin(), TOO_MANY);
        x.flood();
        due("17th begin(), all has to be mended", x.begin(), TOO_MANY);
        x = written(148);
        due("begin() with 149 entries", x.begin(), 1);
        due("begin() with 150 entries", x.begin(), TOO_MANY);
        x.save(150);
        x.flood();
        due("begin() with 150 entries behind a flood", x.begin(), TOO_MANY);
        x = made("b;f0;x");
        due("begin() behind a flood", x.begin(), NOT_POSSIBLE);
        x.mend(1);
        due("begin() when it is mended", x.begin(), 1);
    }

    private static void write() {
        check.about("promise 3");
        FloodDiary x = made("b;b");
        due("write(0, 7, 0)", x.write(0, 7, 0), 0);
        due("write(0, 7, 999)", x.write(0, 7, 999), 0);
        due("write(0, 7, 5)", x.write(0, 7, 5), 999);
        dueEntry(x, 4, 1, 0, 3, 7, 0, 999, NONE, 0);
        duePage(x, 7, 0, 0, 1, 5, 5, 1, 0);
        due("work 2", x.write(2, 0, 0), NO_SUCH);
        due("work -1", x.write(-1, 0, 0), NO_SUCH);
        due("work lowest", x.write(LOWEST, 0, 0), NO_SUCH);
        due("page 8", x.write(0, 8, 1000), NO_SUCH);
        due("page -1", x.write(0, -1, 0), NO_SUCH);
        due("page highest", x.write(0, HIGHEST, 0), NO_SUCH);
        due("value 1000", x.write(0, 0, 1000), BAD_VALUE);
        due("value -1", x.write(0, 0, -1), BAD_VALUE);
        due("value -1 on a page that is held", x.write(1, 7, -1), BAD_VALUE);
        due("a page that is held", x.write(1, 7, 1), NOT_POSSIBLE);
        due("count(1)", x.count(1), 5);
        due("ofPage(0, 2)", x.ofPage(0, 2), 0);
        x.finish(0);
        due("a page that is held no more", x.write(1, 7, 1), 5);
        due("a FINISHED work", x.write(0, 0, 1), NOT_POSSIBLE);
        x.tear(1);
        due("a TORN work", x.write(1, 0, 1), NOT_POSSIBLE);
        due("page 7 is as before", x.ofPage(7, 3), 5);
        x.flood();
        due("value 1000 behind a flood", x.write(0, 0, 1000), BAD_VALUE);
        due("behind a flood", x.write(0, 0, 1), NOT_POSSIBLE);
        x = written(148);
        due("with 149 entries", x.write(0, 2, 1), 0);
        due("with 150 entries", x.write(0, 2, 1), TOO_MANY);
        due("value with 150 entries", x.write(0, 2, 1000), BAD_VALUE);
        x.save(150);
        x.flood();
        due("with 150 entries behind a flood", x.write(0, 2, 1), TOO_MANY);
        x = made("b;w0>2=40;p2;f0;x;m9;b");
        due("the value comes from the shelf", x.write(1, 2, 41), 40);
    }

    private static void finish() {
        check.about("promise 4");
        FloodDiary x = made("b;b;w0>1=7;b");
        due("finish(0)", x.finish(0), 5);
        dueCounts(x, 3, 5, 5, 0, 0, 0, 0, 2, 6);
        dueWork(x, 0, 1, 5, 3, 0, 0);
        dueEntry(x, 5, 3, 0, 3, NONE, NONE, NONE, NONE, 1);
        due("finish(0) again", x.finish(0), NOT_POSSIBLE);
        due("finish(3)", x.finish(3), NO_SUCH);
        due("finish(-1)", x.finish(-1), NO_SUCH);
        x.tear(1);
        due("finish(1) when TORN", x.finish(1), NOT_POSSIBLE);
        x.flood();
        due("finish(2) behind a flood", x.finish(2), NOT_POSSIBLE);
        x = written(148);
        due("finish(0) with 149 entries", x.finish(0), 150);
        due("finish(0) with 150 entries, FINISHED", x.finish(0), TOO_MANY);
        due("finish(1) with 150 entries", x.finish(1), NO_SUCH);
    }

    private static void tear() {
        check.about("promise 5");
        FloodDiary x = made("b;b;w0>1=7;w1>0=3;w0>2=8;w0>1=9");
        due("tear(0)", x.tear(0), 4);
        dueEntry(x, 7, 2, 0, 6, 1, NONE, 7, 5, 0);
        dueEntry(x, 8, 2, 0, 7, 2, NONE, 0, 3, 0);
        dueEntry(x, 9, 2, 0, 8, 1, NONE, 0, 1, 0);
        dueEntry(x, 10, 4, 0, 9, NONE, NONE, NONE, NONE, 0);
        duePage(x, 1, 0, 0, 1, 0, 9, 1, NONE);
        duePage(x, 2, 0, 0, 1, 0, 8, 1, NONE);
        duePage(x, 0, 0, 0, 1, 3, 4, 1, 1);
        dueCounts(x, 2, 10, 0, 0, 0, 0, 0, 7, 2);
        dueWork(x, 0, 2, 10, 8, 0, 0);
        due("tear(0) again", x.tear(0), NOT_POSSIBLE);
        due("tear(2)", x.tear(2), NO_SUCH);
        due("tear(-1)", x.tear(-1), NO_SUCH);
        due("a work that wrote nothing", made("b;b").tear(1), 1);
        x.finish(1);
        due("tear(1) when FINISHED", x.tear(1), NOT_POSSIBLE);
        x = made("b;f0;b;s3;x");
        due("tear(1) behind a flood", x.tear(1), NOT_POSSIBLE);
        x = written(74);
        due("tear(0) up to 150 entries", x.tear(0), 75);
        due("count(1)", x.count(1), 150);
        x = written(74);
        x.begin();
        due("tear(0) up to 151 entries", x.tear(0), TOO_MANY);
        dueCounts(x, 2, 76, 0, 0, 0, 0, 0, 3, 3);
        x.flood();
        x.mend(1);
        due("a lost work", x.tear(0), NO_SUCH);
        x = written(75);
        x.save(76);
        x.flood();
        due("tear(0), too many behind a flood", x.tear(0), NOT_POSSIBLE);
    }

    private static void save() {
        check.about("promise 6");
        FloodDiary x = made("b;w0>0=1;w0>0=2");
        due("save(0)", x.save(0), NO_SUCH);
        due("save(4)", x.save(4), NO_SUCH);
        due("save(-1)", x.save(-1), NO_SUCH);
        due("save(highest)", x.save(HIGHEST), NO_SUCH);
        due("save(2)", x.save(2), 2);
        due("ofEntry(2, 7)", x.ofEntry(2, 7), 1);
        due("ofEntry(3, 7)", x.ofEntry(3, 7), 0);
        due("save(1), saved farther already", x.save(1), 2);
        due("count(2)", x.count(2), 2);
        due("count(10)", x.count(10), 3);
        due("save(3)", x.save(3), 3);
        x.flood();
        due("save(4) behind a flood", x.save(4), NO_SUCH);
        due("save(3) behind a flood", x.save(3), NOT_POSSIBLE);
    }

    private static void putAway() {
        check.about("promise 7");
        FloodDiary x = made("b;w0>0=1;w0>1=2;w0>2=3");
        due("putAway(1)", x.putAway(1), 3);
        duePage(x, 1, 2, 3, 1, 2, 3, 0, 0);
        dueCounts(x, 1, 4, 3, 0, 0, 0, 0, 5);
        due("putAway(0), saved farther already", x.putAway(0), 3);
        duePage(x, 0, 1, 2, 1, 1, 2, 0, 0);
        due("putAway(0) again", x.putAway(0), 3);
        due("putAway(3), not in hand", x.putAway(3), NOT_POSSIBLE);
        due("putAway(8)", x.putAway(8), NO_SUCH);
        due("putAway(-1)", x.putAway(-1), NO_SUCH);
        x.flood();
        due("putAway(8) behind a flood", x.putAway(8), NO_SUCH);
        x.mend(1);
        due("ofPage(0, 2) amid mending", x.ofPage(0, 2), 1);
        due("putAway(0) amid mending", x.putAway(0), NOT_POSSIBLE);
    }

    private static void flood() {
        check.about("promise 8");
        FloodDiary x = made("b;w0>0=1;p0;w0>0=2;b;w1>1=3;b");
        due("flood()", x.flood(), 4);
        dueCounts(x, 1, 2, 2, 1, 1, 0, 4, 0, 1);
        duePage(x, 0, 1, 2, 0, NONE, NONE, 0, NONE);
        duePage(x, 1, 0, 0, 0, NONE, NONE, 0, NONE);
        dueWork(x, 0, 0, 2, 2, 1, 2);
        due("ofWork(1, 0), forgotten", x.ofWork(1, 0), NO_SUCH);
        due("flood() again", x.flood(), 0);
        dueCounts(x, 1, 2, 2, 1, 2, 0, 4);
        due("mend(999)", x.mend(999), 3);
        due("begin(), a number that is given again", x.begin(), 1);
        due("ofWork(1, 1), an entry's number too", x.ofWork(1, 1), 5);
        x = made("b;w0>0=4;t0;s4");
        due("ofWork(0, 0)", x.ofWork(0, 0), 2);
        due("flood(), LEFT is saved", x.flood(), 0);
        due("ofWork(0, 0)", x.ofWork(0, 0), 2);
        x = made("b;w0>0=4;t0;s3");
        due("flood(), LEFT is not saved", x.flood(), 1);
        dueWork(x, 0, 0, 3, 3, 1, 1);
    }

    private static void blur() {
        check.about("promise 9");
        FloodDiary x = made("b;w0>0=1;f0;b;w1>0=2;f1");
        due("blur(1) without a flood", x.blur(1), NOT_POSSIBLE);
        due("blur(0) without a flood", x.blur(0), BAD_VALUE);
        x.flood();
        due("blur(0)", x.blur(0), BAD_VALUE);
        due("blur(6)", x.blur(6), BAD_VALUE);
        due("blur(-1)", x.blur(-1), BAD_VALUE);
        due("blur(lowest)", x.blur(LOWEST), BAD_VALUE);
        due("blur(1)", x.blur(1), 5);
        dueWork(x, 1, 0, 5, 2, 1, 5);
        dueCounts(x, 2, 5, 5, 1, 1, 0, 1, 0, 2);
        due("blur(3)", x.blur(3), 2);
        dueCounts(x, 1, 2, 2, 1, 1, 0, 4, 0, 1);
        due("blur(3), not so many", x.blur(3), NOT_POSSIBLE);
        due("blur(2), all of them", x.blur(2), 0);
        due("blur(1), none is there", x.blur(1), NOT_POSSIBLE);
        dueCounts(x, 0, 0, 0, 1, 1, 0, 6, 0, 0);
        due("mend(1)", x.mend(1), 0);
        due("blur(1), it is mended", x.blur(1), NOT_POSSIBLE);
        due("begin()", x.begin(), 0);
        x = made("b;w0>0=1;w0>1=2;w0>0=3;p1;s4;x");
        due("blur(2), a page has the mark", x.blur(2), NOT_POSSIBLE);
        due("blur(3), a page has the mark", x.blur(3), NOT_POSSIBLE);
        due("blur(1), a page has the mark before", x.blur(1), 3);
        due("blur(1), a page has the last mark", x.blur(1), NOT_POSSIBLE);
        x.mend(1);
        due("blur(1) amid mending", x.blur(1), NOT_POSSIBLE);
        x = made("b;w0>0=1;w0>1=2;s3;x;m1");
        due("blur(1) amid mending", x.blur(1), NOT_POSSIBLE);
        x.flood();
        due("blur(1) behind a second flood", x.blur(1), 2);
        x = made("b;w0>0=1;f0;x");
        due("blur(5), not so many", x.blur(5), NOT_POSSIBLE);
        due("count(1)", x.count(1), 3);
    }

    private static void mendSteps() {
        check.about("promise 10, steps");
        FloodDiary x = made("b;w0>0=1;w0>1=2;f0");
        due("mend(1) without a flood", x.mend(1), NOT_POSSIBLE);
        due("mend(0) without a flood", x.mend(0), BAD_VALUE);
        x.flood();
        due("mend(0)", x.mend(0), BAD_VALUE);
        due("mend(1000)", x.mend(1000), BAD_VALUE);
        due("mend(-1)", x.mend(-1), BAD_VALUE);
        due("mend(1)", x.mend(1), 1);
        duePage(x, 0, 0, 0, 1, 1, 2, 1);
        duePage(x, 1, 0, 0, 0);
        dueCounts(x, 1, 4, 4, 1, 1, 1);
        due("mend(1), the last step", x.mend(1), 1);
        duePage(x, 1, 0, 0, 1, 2, 3, 1);
        dueCounts(x, 1, 4, 4, 0, 1, 2);
        due("mend(1), mended", x.mend(1), NOT_POSSIBLE);
        x = made("b;b;s2;x");
        due("mend(999)", x.mend(999), 2);
        dueCounts(x, 2, 4, 4, 0, 1, 2, 0, 0, 0);
        due("a new object", made("x").mend(999), 0);
        x = made("b;w0>0=1;p0;f0;x");
        due("a step that does not change the page", x.mend(999), 1);
        duePage(x, 0, 1, 2, 1, 1, 2, 0);
        x = made("b;f0;x;m1");
        due("mended without steps", x.count(3), 0);
        x = made("b;w0>0=1;w0>0=2;p0;f0;x;m1");
        duePage(x, 0, 2, 3, 1, 2, 3, 0);
        due("the page has a greater mark", x.count(5), 1);
    }

    private static void mendOrder() {
        check.about("promise 10, order");
        FloodDiary x = made("b;b;w0>0=10;w1>1=20;w0>2=30;w1>1=21;s6;x");
        due("mend(4), doing again", x.mend(4), 4);
        duePage(x, 1, 0, 0, 1, 21, 6, 1);
        due("mend(1), taking back", x.mend(1), 1);
        dueEntry(x, 7, 2, 1, 6, 1, NONE, 20, 4, 0);
        due("mend(1), of the other work", x.mend(1), 1);
        dueEntry(x, 8, 2, 0, 5, 2, NONE, 0, 3, 0);
        dueWork(x, 0, 0, 8, 4, 5, 3);
        dueWork(x, 1, 0, 7, 4, 2, 4);
        due("mend(1)", x.mend(1), 1);
        dueEntry(x, 9, 2, 1, 7, 1, NONE, 0, 2, 0);
        due("mend(1)", x.mend(1), 1);
        dueEntry(x, 10, 2, 0, 8, 0, NONE, 0, 1, 0);
        due("mend(1)", x.mend(1), 1);
        dueEntry(x, 11, 4, 1, 9, NONE, NONE, NONE, NONE, 0);
        due("count(3)", x.count(3), 1);
        due("mend(999)", x.mend(999), 1);
        dueEntry(x, 12, 4, 0, 10, NONE, NONE, NONE, NONE, 1);
        dueCounts(x, 2, 12, 12, 0, 1, 10, 0, 7, 0);
    }

    private static void mendAnew() {
        check.about("promise 10, anew");
        FloodDiary x = made("b;w0>0=1;w0>0=2;w0>1=3;s4;x;m5");
        dueCounts(x, 1, 6, 4, 1, 1, 5, 0, 3);
        due("flood() amid mending", x.flood(), 2);
        dueCounts(x, 1, 4, 4, 1, 2, 5, 2, 0);
        duePage(x, 0, 0, 0, 0, NONE, NONE, 0);
        due("mend(999)", x.mend(999), 7);
        dueCounts(x, 1, 8, 8, 0, 2, 12, 2, 3, 0);
        due("flood()", x.flood(), 0);
        due("blur(2): LEFT and a BACK", x.blur(2), 6);
        dueWork(x, 0, 0, 6, 6, 3, 2);
        due("mend(999): 5 again, 2 back", x.mend(999), 7);
        dueEntry(x, 7, 2, 0, 6, 0, NONE, 0, 1, 1);
        dueEntry(x, 8, 4, 0, 7, NONE, NONE, NONE, NONE, 1);
        duePage(x, 0, 0, 0, 1, 0, 7, 1);
    }

    private static void mendBeyondTheLimit() {
        check.about("promise 10, beyond the limit");
        FloodDiary x = written(149);
        x.save(150);
        x.flood();
        due("stepsToMend()", x.stepsToMend(), 299);
        due("mend(298)", x.mend(298), 298);
        due("mend(999)", x.mend(999), 1);
        dueCounts(x, 1, 300, 300, 0, 1, 299);
        due("begin()", x.begin(), TOO_MANY);
        due("write", x.write(0, 0, 1), TOO_MANY);
        due("finish", x.finish(0), TOO_MANY);
        due("tear", x.tear(0), NOT_POSSIBLE);
        due("save(300)", x.save(300), 300);
        due("putAway(0)", x.putAway(0), 300);
        x.flood();
        due("mend(999)", x.mend(999), 298);
        due("count(1)", x.count(1), 300);
    }

    private static void ofPage() {
        check.about("promise 11");
        FloodDiary x = made("b;b;w1>4=50;p4;w1>4=51");
        duePage(x, 4, 50, 3, 1, 51, 4, 1, 1, BAD_VALUE);
        duePage(x, 5, 0, 0, 0, NONE, NONE, 0, NONE, BAD_VALUE);
        due("asking does not take into hand", x.ofPage(5, 2), 0);
        due("ofPage(0, -1)", x.ofPage(0, -1), BAD_VALUE);
        due("ofPage(8, 7)", x.ofPage(8, 7), NO_SUCH);
        due("ofPage(-1, 0)", x.ofPage(-1, 0), NO_SUCH);
        due("ofPage(highest, lowest)", x.ofPage(HIGHEST, LOWEST), NO_SUCH);
        x.flood();
        due("none holds it behind a flood", x.ofPage(4, 6), NONE);
        x.mend(1);
        duePage(x, 4, 50, 3, 1, 50, 3, 0, NONE);
        x = made("b;w0>4=1;f0");
        due("none holds it behind finish()", x.ofPage(4, 6), NONE);
        due("dirty with the same value", made("b;w0>4=0").ofPage(4, 5), 1);
    }

    private static void ofWork() {
        check.about("promise 12");
        FloodDiary x = made("b;b;w0>3=1;w1>0=2;w0>5=3;w0>3=4");
        dueWork(x, 0, 0, 6, 4, 40, 6, BAD_VALUE);
        dueWork(x, 1, 0, 4, 2, 1, 4, BAD_VALUE);
        x.begin();
        dueWork(x, 2, 0, 7, 1, 0, 7);
        due("ofWork(0, -1)", x.ofWork(0, -1), BAD_VALUE);
        due("ofWork(3, 5)", x.ofWork(3, 5), NO_SUCH);
        due("ofWork(-1, 0)", x.ofWork(-1, 0), NO_SUCH);
        due("ofWork(16, 0)", x.ofWork(16, 0), NO_SUCH);
        x.save(7);
        x.flood();
        dueWork(x, 0, 0, 6, 4, 40, 6);
        x.mend(4 + 1 + 1);
        dueWork(x, 0, 0, 9, 5, 40, 5);
        x.mend(999);
        dueWork(x, 0, 2, 14, 8, 0, 0);
        x = made("b;w0>3=1;f0");
        dueWork(x, 0, 1, 3, 3, 0, 0);
    }

    private static void ofEntry() {
        check.about("promise 13");
        FloodDiary x = made("b;b;w0>3=7;w0>3=9;s3;t0;f1");
        dueEntry(x, 1, 0, 0, 0, NONE, NONE, NONE, NONE, 1, BAD_VALUE);
        dueEntry(x, 2, 0, 1, 0, NONE, NONE, NONE, NONE, 1, BAD_VALUE);
        dueEntry(x, 3, 1, 0, 1, 3, 0, 7, NONE, 1, BAD_VALUE);
        dueEntry(x, 4, 1, 0, 3, 3, 7, 9, NONE, 1, BAD_VALUE);
        dueEntry(x, 5, 2, 0, 4, 3, NONE, 7, 3, 1, BAD_VALUE);
        dueEntry(x, 6, 2, 0, 5, 3, NONE, 0, 1, 1, BAD_VALUE);
        dueEntry(x, 7, 4, 0, 6, NONE, NONE, NONE, NONE, 1, BAD_VALUE);
        dueEntry(x, 8, 3, 1, 2, NONE, NONE, NONE, NONE, 1, BAD_VALUE);
        x.begin();
        due("ofEntry(9, 7)", x.ofEntry(9, 7), 0);
        due("ofEntry(1, -1)", x.ofEntry(1, -1), BAD_VALUE);
        due("ofEntry(0, 0)", x.ofEntry(0, 0), NO_SUCH);
        due("ofEntry(10, 8)", x.ofEntry(10, 8), NO_SUCH);
        due("ofEntry(-1, 0)", x.ofEntry(-1, 0), NO_SUCH);
        due("ofEntry(highest, 0)", x.ofEntry(HIGHEST, 0), NO_SUCH);
    }

    private static void count() {
        check.about("promise 14");
        FloodDiary x = made("b;w0>1=5;f0;b;w1>2=6;b;w2>7=7;p7;w1>3=8;x;m1");
        type(x, "b;b");
        dueCounts(x, 3, 7, 7, 1, 1, 1, 1, 2, 6, 3, 1, BAD_VALUE);
        due("count(-1)", x.count(-1), BAD_VALUE);
        due("count(lowest)", x.count(LOWEST), BAD_VALUE);
        x.mend(999);
        dueCounts(x, 3, 11, 11, 0, 1, 7, 1, 134, 0, 3, 2);
    }

    private static void stepsToMend() {
        check.about("promise 15");
        FloodDiary x = made("b;w0>1=5;f0;b;w1>2=6;w1>2=7");
        due("nothing saved of work 1", x.stepsToMend(), 1);
        x.save(5);
        due("two written, one back, left", x.stepsToMend(), 4);
        dueCounts(x, 2, 6, 5, 0, 0, 0, 0, 6, 2, 0, 2);
        x.flood();
        due("behind a flood", x.stepsToMend(), 4);
        x.mend(3);
        due("amid mending", x.stepsToMend(), 1);
        x.mend(1);
        due("mended, behind a flood now", x.stepsToMend(), 3);
        due("a new object", new FloodDiary().stepsToMend(), 0);
    }

    private static void wouldBe() {
        check.about("promise 16");
        FloodDiary x = made("b;w0>1=5;f0;b;w1>2=6;p2;w1>2=7;w1>1=9");
        due("an OPEN work, put away", x.wouldBe(2), 0);
        due("a FINISHED work", x.wouldBe(1), 5);
        due("a page that nothing wrote on", x.wouldBe(0), 0);
        due("ofPage(0, 2)", x.ofPage(0, 2), 0);
        dueCounts(x, 2, 7, 5, 0, 0, 0, 0, 6, 2);
        due("wouldBe(8)", x.wouldBe(8), NO_SUCH);
        due("wouldBe(-1)", x.wouldBe(-1), NO_SUCH);
        x.flood();
        x.mend(1);
        due("amid mending", x.wouldBe(2), 0);
        due("amid mending", x.wouldBe(1), 5);
        due("mend(999)", x.mend(999), 3);
        x = made("b;w0>6=44;p6;f0");
        due("what the shelf has", x.wouldBe(6), 44);
        x = made("b;w0>6=44;f0;b;w1>6=45;w1>6=46;s6;x;m3;m1");
        due("ofPage(6, 3)", x.ofPage(6, 3), 45);
        due("amid taking back", x.wouldBe(6), 44);
    }

    private static void firstNeeded() {
        check.about("promise 17");
        FloodDiary x = made("b;b;w0>1=5;w1>2=6");
        due("none is saved", x.firstNeeded(), NONE);
        x.save(1);
        due("a BEGUN", x.firstNeeded(), 1);
        x.finish(0);
        due("a BEGUN of another work", x.firstNeeded(), 2);
        x.finish(1);
        due("a WRITTEN", x.firstNeeded(), 3);
        x.putAway(1);
        due("the next WRITTEN", x.firstNeeded(), 4);
        x.putAway(2);
        due("none is needed", x.firstNeeded(), NONE);
        x = made("b;w0>1=5;p1;t0;s3");
        due("LEFT is not saved", x.firstNeeded(), 1);
        x.save(4);
        due("a BACK", x.firstNeeded(), 3);
        x.putAway(1);
        due("none is needed", x.firstNeeded(), NONE);
        x = made("b;w0>1=5;p1;s2;x;m2");
        due("LEFT is not saved amid mending", x.firstNeeded(), 1);
        x.mend(1);
        due("mended", x.firstNeeded(), 3);
    }

    private static void settled() {
        check.about("promise 18");
        FloodDiary x = made("b;w0>1=5;f0;b;b;w1>1=6;w2>2=7;w1>1=8;p1");
        due("settled(1)", x.settled(1), 5);
        due("settled(2)", x.settled(2), 0);
        due("settled(0)", x.settled(0), 0);
        due("ofPage(0, 2)", x.ofPage(0, 2), 0);
        dueCounts(x, 3, 8, 8, 0, 0, 0, 0, 4, 6);
        due("settled(8)", x.settled(8), NO_SUCH);
        due("settled(-1)", x.settled(-1), NO_SUCH);
        x.flood();
        due("settled(8) behind a flood", x.settled(8), NO_SUCH);
        due("settled(1) behind a flood", x.settled(1), NOT_POSSIBLE);
        x = made("b;w0>6=44;f0;p6;x;m9");
        due("without OPEN works", x.settled(6), 44);
        x = written(149);
        due("with 150 entries", x.settled(0), 0);
    }

    private static void put() {
        check.about("promise 19");
        FloodDiary x = new FloodDiary();
        due("put(0)", x.put(0), BAD_VALUE);
        due("put(32)", x.put(32), BAD_VALUE);
        due("put(127)", x.put(127), BAD_VALUE);
        due("put(255)", x.put(255), BAD_VALUE);
        due("put(-1)", x.put(-1), BAD_VALUE);
        due("put(Long.MIN_VALUE)", x.put(Long.MIN_VALUE), BAD_VALUE);
        due("put of 0 and 8 bits above", x.put(0x6200L), BAD_VALUE);
        due("put of 8 bits that are 0 amid", x.put(0x620062L), BAD_VALUE);
        due("put of a bit at the top", x.put(0x8000000000000062L), BAD_VALUE);
        due("put of 8 bits at the top", x.put(0x6200000000000062L), BAD_VALUE);
        due("put of a bad code first", x.put(0x2062626262626262L), BAD_VALUE);
        due("put(33)", x.put(33), 1);
        due("put(126)", x.put(126), 2);
        due("put of eight", x.put(0x7e7e7e7e7e7e7e7eL), 10);
        due("count(10)", x.count(10), 0);
        for (int length = 18; length <= 74; length += 8) {
            due("put of eight", x.put(0x6262626262626262L), length);
        }
        due("put of eight, 82", x.put(0x6262626262626262L), TOO_MANY);
        due("put of seven, 81", x.put(0x62626262626262L), TOO_MANY);
        due("put of a bad code", x.put(0x62626262626220L), BAD_VALUE);
        due("put of six, 80", x.put(0x626262626262L), 80);
        due("put of one, 81", x.put(0x62), TOO_MANY);
        due("count(9)", x.count(9), 80);
        x = new FloodDiary();
        x.put(0x623b78);
        due("the order of characters", x.carryOut(), 2);
        due("the order of characters", x.count(6), 1);
    }

    private static void wipe() {
        check.about("promise 20");
        FloodDiary x = new FloodDiary();
        due("wipe()", x.wipe(), 0);
        type(x, "b;b;f");
        due("wipe()", x.wipe(), 5);
        due("count(9)", x.count(9), 0);
        due("count(10)", x.count(10), 0);
        due("wipe() again", x.wipe(), 0);
        type(x, "b");
        due("fault()", x.fault(), NONE);
    }

    private static void fault() {
        check.about("promise 21");
        String[] good = {"b", "x", "w0>0=0", "w999>7=999", "f10", "t105", "p7", "s150", "m999", "b;b", "w16>3=40;p3;x;m1;s0"};
        for (String text : good) {
            due("fault() of " + text, faultOf(text), NONE);
        }
        String[] early = {"", "w", "w1", "w1>", "w1>2", "w1>2=", "f", "t", "p", "s", "m", "b;", "m1;", "b;w12"};
        for (String text : early) {
            due("fault() of " + text, faultOf(text), text.length());
        }
        due("fault() of a", faultOf("a"), 0);
        due("fault() of ;", faultOf(";"), 0);
        due("fault() of B", faultOf("B"), 0);
        due("fault() of bb", faultOf("bb"), 1);
        due("fault() of b;;b", faultOf("b;;b"), 2);
        due("fault() of b1", faultOf("b1"), 1);
        due("fault() of w>1=1", faultOf("w>1=1"), 1);
        due("fault() of w01>1=1", faultOf("w01>1=1"), 2);
        due("fault() of w00", faultOf("w00"), 2);
        due("fault() of w1000>1=1", faultOf("w1000>1=1"), 4);
        due("fault() of w1>8=1", faultOf("w1>8=1"), 3);
        due("fault() of w1>22=1", faultOf("w1>22=1"), 4);
        due("fault() of w1=2", faultOf("w1=2"), 2);
        due("fault() of w1>2>", faultOf("w1>2>"), 4);
        due("fault() of w1>2=;", faultOf("w1>2=;"), 5);
        due("fault() of w1>2=1000", faultOf("w1>2=1000"), 8);
        due("fault() of w1>2=05", faultOf("w1>2=05"), 6);
        due("fault() of p8", faultOf("p8"), 1);
        due("fault() of p77", faultOf("p77"), 2);
        due("fault() of f-1", faultOf("f-1"), 1);
        due("fault() of m9999", faultOf("m9999"), 4);
        due("fault() of x;m0;m00", faultOf("x;m0;m00"), 7);
        due("fault() of x:b", faultOf("x:b"), 1);
        due("fault() of s1/", faultOf("s1/"), 2);
        due("fault() of s:", faultOf("s:"), 1);
        due("fault() of 40 orders", faultOf("b;b;b;b;".repeat(9) + "b;b;b;bb"), 79);
        due("fault() of 40 orders and ;", faultOf("b;b;b;b;".repeat(10)), 80);
        due("fault() of 39 orders and a longer one", faultOf("b;b;b;b;".repeat(9) + "b;b;b;p1"), NONE);
        FloodDiary x = new FloodDiary();
        type(x, "b;bb");
        x.fault();
        due("the pad stays", x.count(9), 4);
    }

    private static void carryOut() {
        check.about("promise 22");
        FloodDiary x = new FloodDiary();
        due("of an empty pad", x.carryOut(), BAD_TEXT);
        due("of a fault behind", carryPad(x, "b;b;"), BAD_TEXT);
        dueCounts(x, 0, 0, 0, 0, 0, 0, 0, 0, 0, 4, 0);
        x.wipe();
        due("of eight", carryPad(x, "b;w0>4=17;w0>5=18;p4;b;t0;s7;f1"), 8);
        dueCounts(x, 2, 8, 8, 0, 0, 0, 0, 48, 0, 0, 1);
        duePage(x, 4, 17, 2, 1, 0, 6);
        due("up to an error", carryPad(x, "b;f9;b"), 1);
        dueCounts(x, 3, 9, 8, 0, 0, 0, 0, 48, 4, 0, 2);
        due("none is carried out", carryPad(x, "m1"), 0);
        dueCounts(x, 3, 9, 8, 0, 0, 0, 0, 48, 4, 0, 3);
        due("floods and mending", carryPad(x, "x;m0;b"), 1);
        due("count(3)", x.count(3), 1);
        due("floods and mending", carryPad(x, "m1;x;m999;b;w2>7=3"), 5);
        dueCounts(x, 3, 10, 8, 0, 2, 5, 1, 176, 4, 0, 5);
        due("undo()", x.undo(), 4);
        dueCounts(x, 2, 8, 8, 1, 1, 0, 1, 0, 0, 0, 4);
        FloodDiary y = new FloodDiary();
        due("40 orders", carryPad(y, "b;b;b;b;".repeat(9) + "b;b;b;b"), 16);
        due("count(0)", y.count(0), 16);
    }

    private static void undo() {
        check.about("promise 23");
        FloodDiary x = new FloodDiary();
        due("a new object", x.undo(), NOT_POSSIBLE);
        x.begin();
        due("count(10)", x.count(10), 1);
        x.write(0, 9, 0);
        due("an error is not recorded", x.count(10), 1);
        x.write(0, 3, 30);
        x.write(0, 3, 31);
        x.putAway(3);
        x.save(1);
        type(x, "b");
        x.keep(1);
        due("what is no change is not recorded", x.count(10), 5);
        due("undo() of nothing", x.undo(), 4);
        due("undo() of putAway", x.undo(), 3);
        duePage(x, 3, 0, 0, 1, 31, 3, 1, 0);
        dueCounts(x, 1, 3, 0, 0, 0, 0, 0, 8, 1, 1, 3);
        due("undo() of write", x.undo(), 2);
        due("ofPage(3, 3)", x.ofPage(3, 3), 30);
        due("undo() of write", x.undo(), 1);
        duePage(x, 3, 0, 0, 0, NONE, NONE, 0, NONE);
        due("undo() of begin", x.undo(), 0);
        dueCounts(x, 0, 0, 0, 0, 0, 0, 0, 0, 0, 1, 0);
        due("undo() once more", x.undo(), NOT_POSSIBLE);
        due("the slot stays", x.bring(1), 3);
        x = made("b;w0>0=1");
        x.save(2);
        x.flood();
        x.blur(1);
        x.mend(1);
        dueCounts(x, 1, 2, 2, 0, 1, 1, 1, 0, 0, 0, 5);
        due("undo() of mend", x.undo(), 4);
        dueCounts(x, 1, 1, 1, 1, 1, 0, 1);
        due("undo() of blur", x.undo(), 3);
        dueCounts(x, 1, 2, 2, 1, 1, 0, 0);
        due("it can be blurred anew", x.blur(2), 0);
        x.undo();
        due("undo() of flood", x.undo(), 2);
        duePage(x, 0, 0, 0, 1, 1, 2, 1, 0);
        dueCounts(x, 1, 2, 2, 0, 0, 0, 0);
        undoOfMany();
        undoOfEach();
    }

    /** What a work with two entries on page 2 tells, all of which undo() brings back. */
    private static void dueBefore(FloodDiary x) {
        dueCounts(x, 2, 4, 1, 0, 0, 0, 0, 4, 3);
        duePage(x, 2, 0, 0, 1, 6, 4, 1, 0);
        dueWork(x, 0, 0, 4, 3, 4, 4);
        dueWork(x, 1, 0, 2, 1, 0, 2);
        dueEntry(x, 4, 1, 0, 3, 2, 5, 6, NONE, 0);
    }

    private static void undoOfEach() {
        FloodDiary x = made("b;b;w0>2=5;w0>2=6;s1");
        x.keep(0);
        dueBefore(x);
        due("begin()", x.begin(), 2);
        due("undo() of begin", x.undo(), 1);
        dueBefore(x);
        due("write", x.write(1, 3, 9), 0);
        due("undo() of write", x.undo(), 1);
        dueBefore(x);
        due("finish(0)", x.finish(0), 5);
        due("undo() of finish", x.undo(), 1);
        dueBefore(x);
        due("tear(0)", x.tear(0), 3);
        due("undo() of tear", x.undo(), 1);
        dueBefore(x);
        due("save(4)", x.save(4), 4);
        due("undo() of save", x.undo(), 1);
        dueBefore(x);
        due("putAway(2)", x.putAway(2), 4);
        due("undo() of putAway", x.undo(), 1);
        dueBefore(x);
        due("flood()", x.flood(), 3);
        due("undo() of flood", x.undo(), 1);
        dueBefore(x);
        x.flood();
        due("bring(0)", x.bring(0), 4);
        dueBefore(x);
        due("undo() of bring", x.undo(), 2);
        due("count(1)", x.count(1), 1);
        x.mend(1);
        x.undo();
        x.undo();
        dueBefore(x);
        due("carryOut()", carryPad(x, "t0;t1;x"), 3);
        due("undo() of carryOut", x.undo(), 1);
        dueBefore(x);
    }

    private static void undoOfMany() {
        FloodDiary x = new FloodDiary();
        for (int i = 0; i < 9; i++) {
            x.begin();
        }
        due("count(10) behind nine changes", x.count(10), 6);
        for (int left = 5; left >= 0; left--) {
            due("undo()", x.undo(), left);
            due("count(0)", x.count(0), 3 + left);
        }
        due("undo() of a seventh", x.undo(), NOT_POSSIBLE);
        x.begin();
        due("count(10)", x.count(10), 1);
        due("undo()", x.undo(), 0);
        due("count(0)", x.count(0), 3);
        for (int i = 0; i < 7; i++) {
            due("write", x.write(0, i, 5), 0);
        }
        for (int left = 5; left >= 0; left--) {
            due("undo() of write", x.undo(), left);
            due("count(1)", x.count(1), 4 + left);
        }
    }

    private static void keep() {
        check.about("promise 24");
        FloodDiary x = made("b;w0>0=1");
        due("keep(2)", x.keep(2), BAD_VALUE);
        due("keep(-1)", x.keep(-1), BAD_VALUE);
        due("keep(0)", x.keep(0), 2);
        x.write(0, 0, 2);
        due("keep(1)", x.keep(1), 3);
        due("bring(0)", x.bring(0), 2);
        x.write(0, 0, 7);
        x.write(0, 0, 8);
        x.write(0, 0, 9);
        due("keep(0), in place of what was kept", x.keep(0), 5);
        due("bring(1)", x.bring(1), 3);
        due("ofPage(0, 3)", x.ofPage(0, 3), 2);
        due("bring(0)", x.bring(0), 5);
        due("ofPage(0, 3)", x.ofPage(0, 3), 9);
        due("keep of nothing", new FloodDiary().keep(1), 0);
    }

    private static void bring() {
        check.about("promise 25");
        FloodDiary x = made("b;w0>0=1;s2;x;m1");
        due("bring(0), nothing was kept", x.bring(0), NOT_POSSIBLE);
        due("bring(2)", x.bring(2), BAD_VALUE);
        due("bring(-1)", x.bring(-1), BAD_VALUE);
        due("count(10)", x.count(10), 1);
        x.keep(0);
        due("bring(1), nothing was kept", x.bring(1), NOT_POSSIBLE);
        x.mend(9);
        x.begin();
        type(x, "b;b");
        due("bring(0)", x.bring(0), 2);
        dueCounts(x, 1, 2, 2, 1, 1, 1, 0, 1, 1, 3, 4);
        due("it has begun", x.blur(1), NOT_POSSIBLE);
        due("mend(9)", x.mend(9), 2);
        due("bring(0), the slot keeps it", x.bring(0), 2);
        due("stepsToMend()", x.stepsToMend(), 2);
        due("undo() of bring", x.undo(), 5);
        dueCounts(x, 1, 4, 4, 0, 1, 3, 0, 1, 0, 3, 5);
        x.undo();
        due("undo() of bring", x.undo(), 3);
        dueCounts(x, 2, 5, 4, 0, 1, 3, 0, 1, 2, 3, 3);
        x = made("b;w0>1=4;w0>1=5;t0;s5;x;m3;x;m4");
        x.keep(1);
        x.mend(9);
        x.bring(1);
        duePage(x, 1, 0, 0, 1, 0, 5, 1, NONE);
        dueWork(x, 0, 0, 5, 5, 2, 1);
        dueEntry(x, 5, 2, 0, 4, 1, NONE, 0, 1, 1);
    }
}
