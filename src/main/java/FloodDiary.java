/**
 * A diary by which work is made good again behind a flood: pages in hand and on the shelf, works
 * that write on pages, entries that are saved before pages are put away, floods that take what was
 * not saved, and mending, which does work again and takes it back step by step.
 */
public final class FloodDiary {
    public static final int NO_SUCH = -1, BAD_VALUE = -2, BAD_TEXT = -3, TOO_MANY = -4, NOT_POSSIBLE = -5, NONE = -6;
    public static final int OPEN = 0, FINISHED = 1, TORN = 2;
    public static final int BEGUN = 0, WRITTEN = 1, BACK = 2, DONE = 3, LEFT = 4;

    private static final int ALL_PAGES = 8;
    private static final int ALL_WORKS = 16;
    private static final int MOST_ENTRIES = 150;
    // BEGUN and WRITTEN are entered below 150 entries only, and each of them is answered by one
    // entry at most (BEGUN by DONE or LEFT, WRITTEN by BACK): so mending never needs more rows.
    private static final int ROWS = 2 * MOST_ENTRIES;
    private static final int MOST_VALUE = 999;
    // All that mending can have to do is below 999 steps: 300 entries to do again, 166 to take back.
    private static final int MOST_STEPS = 999;
    private static final int MOST_BLURRED = 5;
    private static final int MOST_CHARACTERS = 80;
    private static final int CHARACTERS_A_CALL = 8;
    private static final int LOWEST_CODE = 33, HIGHEST_CODE = 126;
    private static final int MOST_DIGITS = 3;
    private static final int MOST_UNDONE = 6;
    private static final int ALL_SLOTS = 2;

    private final State now = new State();
    private final State trial = new State();
    private final History history = new History();
    private final Slots slots = new Slots();
    private final Pad pad = new Pad();
    private final Orders orders = new Orders();

    public FloodDiary() {
    }

    // ---- works

    public int begin() {
        history.prepare(now);
        return history.record(now.beginWork());
    }

    public int write(int work, int page, int value) {
        history.prepare(now);
        return history.record(now.writePage(work, page, value));
    }

    public int finish(int work) {
        history.prepare(now);
        return history.record(now.finishWork(work));
    }

    public int tear(int work) {
        history.prepare(now);
        return history.record(now.tearWork(work));
    }

    // ---- saving entries and pages

    public int save(int entry) {
        history.prepare(now);
        return history.record(now.saveEntries(entry));
    }

    public int putAway(int page) {
        history.prepare(now);
        return history.record(now.shelvePage(page));
    }

    // ---- floods

    public int flood() {
        history.prepare(now);
        return history.record(now.takeFlood());
    }

    public int blur(int many) {
        history.prepare(now);
        return history.record(now.blurEntries(many));
    }

    public int mend(int steps) {
        history.prepare(now);
        return history.record(now.mendSteps(steps));
    }

    // ---- what there is

    public int ofPage(int page, int what) {
        return now.aboutPage(page, what);
    }

    public int ofWork(int work, int what) {
        return now.works.about(work, what);
    }

    public int ofEntry(int entry, int what) {
        return now.diary.about(entry, what);
    }

    public int count(int what) {
        switch (what) {
            case 9: return pad.length();
            case 10: return history.length();
            default: return now.number(what);
        }
    }

    // ---- what if; nothing changes

    public int stepsToMend() {
        tryFlood();
        return trial.mendSteps(MOST_STEPS);
    }

    public int wouldBe(int page) {
        if (!isPage(page)) {
            return NO_SUCH;
        }
        tryFlood();
        trial.mendSteps(MOST_STEPS);
        trial.pages.takeIntoHand(page);
        return trial.pages.valueInHand(page);
    }

    public int firstNeeded() {
        return now.lowestNeeded();
    }

    public int settled(int page) {
        if (!isPage(page)) {
            return NO_SUCH;
        }
        if (now.mending) {
            return NOT_POSSIBLE;
        }
        trial.become(now);
        trial.tearAllOpen();
        trial.pages.takeIntoHand(page);
        return trial.pages.valueInHand(page);
    }

    // ---- texts

    public int put(long characters) {
        int many = charactersIn(characters);
        if (many == 0) {
            return BAD_VALUE;
        }
        if (!pad.hasRoomFor(many)) {
            return TOO_MANY;
        }
        pad.append(characters, many);
        return pad.length();
    }

    public int wipe() {
        int length = pad.length();
        pad.empty();
        return length;
    }

    public int fault() {
        orders.read(pad);
        return orders.firstFault();
    }

    public int carryOut() {
        orders.read(pad);
        if (orders.firstFault() != NONE) {
            return BAD_TEXT;
        }
        history.prepare(now);
        int carried = 0;
        while (carried < orders.length() && orders.obey(carried, now) >= 0) {
            carried++;
        }
        pad.empty();
        return history.record(carried);
    }

    // ---- undo, slots

    public int undo() {
        if (history.length() == 0) {
            return NOT_POSSIBLE;
        }
        history.takeBack(now);
        return history.length();
    }

    public int keep(int slot) {
        if (!isSlot(slot)) {
            return BAD_VALUE;
        }
        slots.store(slot, now);
        return now.diary.size;
    }

    public int bring(int slot) {
        if (!isSlot(slot)) {
            return BAD_VALUE;
        }
        if (!slots.isFilled(slot)) {
            return NOT_POSSIBLE;
        }
        history.prepare(now);
        slots.fetch(slot, now);
        return history.record(now.diary.size);
    }

    // ---- helpers

    private void tryFlood() {
        trial.become(now);
        if (!trial.mending) {
            trial.takeFlood();
        }
    }

    private static boolean isPage(int page) {
        return page >= 0 && page < ALL_PAGES;
    }

    private static boolean isSlot(int slot) {
        return slot >= 0 && slot < ALL_SLOTS;
    }

    private static boolean isChange(int kind) {
        return kind == WRITTEN || kind == BACK;
    }

    private static int asNumber(boolean yes) {
        return yes ? 1 : 0;
    }

    /** Returns how many characters the number gives, 0 if it cannot be taken. */
    private static int charactersIn(long characters) {
        long rest = characters;
        int many = 0;
        while (many < CHARACTERS_A_CALL && rest != 0) {
            int code = (int) (rest & 255);
            // This refuses 8 bits that are 0 as well, as here something that is not 0 stands above them.
            if (code < LOWEST_CODE || code > HIGHEST_CODE) {
                return 0;
            }
            rest >>>= 8;
            many++;
        }
        return many;
    }

    /** The pages, on the shelf and in hand. */
    private static final class Pages {
        private final int[] shelfValue = new int[ALL_PAGES];
        private final int[] shelfMark = new int[ALL_PAGES];
        private final int[] handValue = new int[ALL_PAGES];
        private final int[] handMark = new int[ALL_PAGES];
        private int inHand = 0;

        void become(Pages other) {
            System.arraycopy(other.shelfValue, 0, shelfValue, 0, ALL_PAGES);
            System.arraycopy(other.shelfMark, 0, shelfMark, 0, ALL_PAGES);
            System.arraycopy(other.handValue, 0, handValue, 0, ALL_PAGES);
            System.arraycopy(other.handMark, 0, handMark, 0, ALL_PAGES);
            inHand = other.inHand;
        }

        boolean isInHand(int page) {
            return isPage(page) && (inHand >> page & 1) == 1;
        }

        boolean isDirty(int page) {
            return isInHand(page) && handMark[page] != shelfMark[page];
        }

        int dirtySet() {
            int set = 0;
            for (int page = 0; page < ALL_PAGES; page++) {
                if (isDirty(page)) {
                    set |= 1 << page;
                }
            }
            return set;
        }

        int valueOnShelf(int page) {
            return isPage(page) ? shelfValue[page] : NONE;
        }

        int markOnShelf(int page) {
            return isPage(page) ? shelfMark[page] : NONE;
        }

        int valueInHand(int page) {
            return isInHand(page) ? handValue[page] : NONE;
        }

        int markInHand(int page) {
            return isInHand(page) ? handMark[page] : NONE;
        }

        /** Takes the page into hand from the shelf, if it is not in hand already. */
        void takeIntoHand(int page) {
            if (isPage(page) && !isInHand(page)) {
                change(page, shelfValue[page], shelfMark[page]);
            }
        }

        void change(int page, int value, int mark) {
            if (isPage(page)) {
                handValue[page] = value;
                handMark[page] = mark;
                inHand |= 1 << page;
            }
        }

        void shelve(int page) {
            if (isInHand(page)) {
                shelfValue[page] = handValue[page];
                shelfMark[page] = handMark[page];
            }
        }

        void leaveHand() {
            inHand = 0;
        }

        int highestShelfMark() {
            int highest = 0;
            for (int page = 0; page < ALL_PAGES; page++) {
                highest = Math.max(highest, shelfMark[page]);
            }
            return highest;
        }
    }

    /** The entries, in rows from 1 on. */
    private static final class Diary {
        private final int[] kinds = new int[ROWS + 1];
        private final int[] works = new int[ROWS + 1];
        private final int[] earlier = new int[ROWS + 1];
        private final int[] pages = new int[ROWS + 1];
        private final int[] before = new int[ROWS + 1];
        private final int[] then = new int[ROWS + 1];
        private final int[] next = new int[ROWS + 1];
        private int size = 0;
        private int saved = 0;

        void become(Diary other) {
            int rows = other.size + 1;
            System.arraycopy(other.kinds, 0, kinds, 0, rows);
            System.arraycopy(other.works, 0, works, 0, rows);
            System.arraycopy(other.earlier, 0, earlier, 0, rows);
            System.arraycopy(other.pages, 0, pages, 0, rows);
            System.arraycopy(other.before, 0, before, 0, rows);
            System.arraycopy(other.then, 0, then, 0, rows);
            System.arraycopy(other.next, 0, next, 0, rows);
            size = other.size;
            saved = other.saved;
        }

        boolean has(int entry) {
            return entry >= 1 && entry <= size && entry <= ROWS;
        }

        boolean isFull() {
            return size >= MOST_ENTRIES;
        }

        /** Enters a row that tells of no page; returns its number, 0 if there is no row left. */
        int add(int kind, int work, int earlierEntry) {
            if (size >= ROWS) {
                return 0;
            }
            size++;
            kinds[size] = kind;
            works[size] = work;
            earlier[size] = earlierEntry;
            pages[size] = NONE;
            before[size] = NONE;
            then[size] = NONE;
            next[size] = NONE;
            return size;
        }

        void tellPage(int entry, int page, int valueBefore, int valueThen, int nextEntry) {
            if (has(entry)) {
                pages[entry] = page;
                before[entry] = valueBefore;
                then[entry] = valueThen;
                next[entry] = nextEntry;
            }
        }

        void saveUpTo(int entry) {
            saved = Math.max(saved, entry);
        }

        void lose(int many) {
            size = Math.max(0, size - many);
            saved = Math.min(saved, size);
        }

        int kindOf(int entry) {
            return has(entry) ? kinds[entry] : NONE;
        }

        int workOf(int entry) {
            return has(entry) ? works[entry] : NONE;
        }

        int earlierOf(int entry) {
            return has(entry) ? earlier[entry] : 0;
        }

        int pageOf(int entry) {
            return has(entry) ? pages[entry] : NONE;
        }

        int beforeOf(int entry) {
            return has(entry) ? before[entry] : NONE;
        }

        int thenOf(int entry) {
            return has(entry) ? then[entry] : NONE;
        }

        int nextOf(int entry) {
            return has(entry) ? next[entry] : NONE;
        }

        int about(int entry, int what) {
            if (!has(entry)) {
                return NO_SUCH;
            }
            switch (what) {
                case 0: return kindOf(entry);
                case 1: return workOf(entry);
                case 2: return earlierOf(entry);
                case 3: return pageOf(entry);
                case 4: return beforeOf(entry);
                case 5: return thenOf(entry);
                case 6: return nextOf(entry);
                case 7: return asNumber(entry <= saved);
                default: return BAD_VALUE;
            }
        }
    }

    /** What the entries tell of the works; all of it can be read from the diary anew. */
    private static final class Works {
        private final int[] states = new int[ALL_WORKS];
        private final int[] last = new int[ALL_WORKS];
        private final int[] entries = new int[ALL_WORKS];
        private final int[] pageSets = new int[ALL_WORKS];
        private final int[] goOn = new int[ALL_WORKS];
        private int size = 0;

        void become(Works other) {
            System.arraycopy(other.states, 0, states, 0, ALL_WORKS);
            System.arraycopy(other.last, 0, last, 0, ALL_WORKS);
            System.arraycopy(other.entries, 0, entries, 0, ALL_WORKS);
            System.arraycopy(other.pageSets, 0, pageSets, 0, ALL_WORKS);
            System.arraycopy(other.goOn, 0, goOn, 0, ALL_WORKS);
            size = other.size;
        }

        boolean has(int work) {
            return work >= 0 && work < size && work < ALL_WORKS;
        }

        boolean isFull() {
            return size >= ALL_WORKS;
        }

        boolean isOpen(int work) {
            return has(work) && states[work] == OPEN;
        }

        int lastOf(int work) {
            return has(work) ? last[work] : 0;
        }

        int goOnOf(int work) {
            return has(work) ? goOn[work] : 0;
        }

        boolean holds(int work, int page) {
            return isOpen(work) && isPage(page) && (pageSets[work] >> page & 1) == 1;
        }

        /** Returns the OPEN work that holds the page, NONE if there is none. */
        int holderOf(int page) {
            for (int work = 0; work < size; work++) {
                if (holds(work, page)) {
                    return work;
                }
            }
            return NONE;
        }

        int openSet() {
            int set = 0;
            for (int work = 0; work < size; work++) {
                if (isOpen(work)) {
                    set |= 1 << work;
                }
            }
            return set;
        }

        /** Returns the OPEN work whose entry to go on with has the greatest number, NONE if there is none. */
        int nextToTakeBack() {
            int found = NONE;
            for (int work = 0; work < size; work++) {
                if (isOpen(work) && goOnOf(work) > goOnOf(found)) {
                    found = work;
                }
            }
            return found;
        }

        void readAnew(Diary diary) {
            size = 0;
            for (int entry = 1; entry <= diary.size; entry++) {
                take(entry, diary.kindOf(entry), diary.workOf(entry), diary.pageOf(entry), diary.nextOf(entry));
            }
        }

        /** Takes in what an entry tells of its work. */
        void take(int entry, int kind, int work, int page, int next) {
            if (kind == BEGUN && work >= 0 && work < ALL_WORKS) {
                size = work + 1;
                entries[work] = 0;
                pageSets[work] = 0;
            }
            if (!has(work)) {
                return;
            }
            boolean ends = kind == DONE || kind == LEFT;
            states[work] = kind == DONE ? FINISHED : kind == LEFT ? TORN : OPEN;
            last[work] = entry;
            entries[work]++;
            goOn[work] = ends ? 0 : kind == BACK ? next : entry;
            if (ends) {
                pageSets[work] = 0;
            } else if (kind == WRITTEN) {
                pageSets[work] |= 1 << page;
            }
        }

        int about(int work, int what) {
            if (!has(work)) {
                return NO_SUCH;
            }
            switch (what) {
                case 0: return states[work];
                case 1: return last[work];
                case 2: return entries[work];
                case 3: return pageSets[work];
                case 4: return goOn[work];
                default: return BAD_VALUE;
            }
        }
    }

    /** Everything that undo and the slots bring back, and the rules by which it changes. */
    private static final class State {
        private final Pages pages = new Pages();
        private final Diary diary = new Diary();
        private final Works works = new Works();
        private boolean mending = false;
        private boolean mendingBegun = false;
        // The first entry that may have to be done again yet.
        private int again = 1;
        private int floods = 0;
        private int stepsMade = 0;
        private int lost = 0;

        void become(State other) {
            pages.become(other.pages);
            diary.become(other.diary);
            works.become(other.works);
            mending = other.mending;
            mendingBegun = other.mendingBegun;
            again = other.again;
            floods = other.floods;
            stepsMade = other.stepsMade;
            lost = other.lost;
        }

        // Each of these returns an error and changes nothing, or changes and returns its answer.

        int beginWork() {
            if (works.isFull() || diary.isFull()) {
                return TOO_MANY;
            }
            if (mending) {
                return NOT_POSSIBLE;
            }
            int work = works.size;
            enter(BEGUN, work);
            return work;
        }

        int writePage(int work, int page, int value) {
            if (!works.has(work) || !isPage(page)) {
                return NO_SUCH;
            }
            if (value < 0 || value > MOST_VALUE) {
                return BAD_VALUE;
            }
            if (diary.isFull()) {
                return TOO_MANY;
            }
            int holder = works.holderOf(page);
            if (mending || !works.isOpen(work) || holder != NONE && holder != work) {
                return NOT_POSSIBLE;
            }
            pages.takeIntoHand(page);
            int before = pages.valueInHand(page);
            enterOnPage(WRITTEN, work, page, before, value, NONE);
            return before;
        }

        int finishWork(int work) {
            if (!works.has(work)) {
                return NO_SUCH;
            }
            if (diary.isFull()) {
                return TOO_MANY;
            }
            if (mending || !works.isOpen(work)) {
                return NOT_POSSIBLE;
            }
            int entry = enter(DONE, work);
            diary.saveUpTo(entry);
            return entry;
        }

        int tearWork(int work) {
            if (!works.has(work)) {
                return NO_SUCH;
            }
            if (mending || !works.isOpen(work)) {
                return NOT_POSSIBLE;
            }
            int steps = stepsToTear(work);
            if (diary.size + steps > MOST_ENTRIES) {
                return TOO_MANY;
            }
            for (int step = 0; step < steps; step++) {
                stepBack(work);
            }
            return steps;
        }

        int saveEntries(int entry) {
            if (!diary.has(entry)) {
                return NO_SUCH;
            }
            if (mending) {
                return NOT_POSSIBLE;
            }
            diary.saveUpTo(entry);
            return diary.saved;
        }

        int shelvePage(int page) {
            if (!isPage(page)) {
                return NO_SUCH;
            }
            if (mending || !pages.isInHand(page)) {
                return NOT_POSSIBLE;
            }
            diary.saveUpTo(pages.markInHand(page));
            pages.shelve(page);
            return diary.saved;
        }

        int takeFlood() {
            int taken = diary.size - diary.saved;
            floods++;
            pages.leaveHand();
            mending = true;
            mendingBegun = false;
            again = 1;
            loseEntries(taken);
            return taken;
        }

        int blurEntries(int many) {
            if (many < 1 || many > MOST_BLURRED) {
                return BAD_VALUE;
            }
            if (!mending || mendingBegun) {
                return NOT_POSSIBLE;
            }
            int left = diary.size - many;
            if (left < 0 || pages.highestShelfMark() > left) {
                return NOT_POSSIBLE;
            }
            loseEntries(many);
            return left;
        }

        int mendSteps(int steps) {
            if (steps < 1 || steps > MOST_STEPS) {
                return BAD_VALUE;
            }
            if (!mending) {
                return NOT_POSSIBLE;
            }
            mendingBegun = true;
            int made = 0;
            while (made < steps && isAnythingLeft()) {
                if (findAgain()) {
                    doAgain(again);
                    again++;
                } else {
                    stepBack(works.nextToTakeBack());
                }
                made++;
            }
            stepsMade += made;
            if (!isAnythingLeft()) {
                mending = false;
                diary.saveUpTo(diary.size);
            }
            return made;
        }

        void tearAllOpen() {
            for (int work = 0; work < works.size; work++) {
                int steps = works.isOpen(work) ? stepsToTear(work) : 0;
                for (int step = 0; step < steps; step++) {
                    stepBack(work);
                }
            }
        }

        int lowestNeeded() {
            for (int entry = 1; entry <= diary.saved; entry++) {
                if (isNeeded(entry)) {
                    return entry;
                }
            }
            return NONE;
        }

        int aboutPage(int page, int what) {
            if (!isPage(page)) {
                return NO_SUCH;
            }
            switch (what) {
                case 0: return pages.valueOnShelf(page);
                case 1: return pages.markOnShelf(page);
                case 2: return asNumber(pages.isInHand(page));
                case 3: return pages.valueInHand(page);
                case 4: return pages.markInHand(page);
                case 5: return asNumber(pages.isDirty(page));
                // While all has to be mended no page is told as held, though the works tell their pages.
                case 6: return mending ? NONE : works.holderOf(page);
                default: return BAD_VALUE;
            }
        }

        int number(int what) {
            switch (what) {
                case 0: return works.size;
                case 1: return diary.size;
                case 2: return diary.saved;
                case 3: return asNumber(mending);
                case 4: return floods;
                case 5: return stepsMade;
                case 6: return lost;
                case 7: return pages.dirtySet();
                case 8: return works.openSet();
                default: return BAD_VALUE;
            }
        }

        private int enter(int kind, int work) {
            int entry = diary.add(kind, work, works.lastOf(work));
            works.take(entry, kind, work, NONE, NONE);
            return entry;
        }

        private void enterOnPage(int kind, int work, int page, int before, int then, int next) {
            int entry = diary.add(kind, work, works.lastOf(work));
            diary.tellPage(entry, page, before, then, next);
            works.take(entry, kind, work, page, next);
            pages.change(page, then, entry);
        }

        private void stepBack(int work) {
            int from = works.goOnOf(work);
            if (diary.kindOf(from) == WRITTEN) {
                enterOnPage(BACK, work, diary.pageOf(from), NONE, diary.beforeOf(from), diary.earlierOf(from));
            } else {
                enter(LEFT, work);
            }
        }

        private int stepsToTear(int work) {
            int from = works.goOnOf(work);
            int steps = 1;
            while (steps <= ROWS && diary.kindOf(from) == WRITTEN) {
                from = diary.earlierOf(from);
                steps++;
            }
            return steps;
        }

        private void loseEntries(int many) {
            diary.lose(many);
            lost += many;
            works.readAnew(diary);
        }

        /** Moves on to the next entry that has to be done again; returns whether there is one. */
        private boolean findAgain() {
            // What mending enters is saved only when it is through, so up to then what is saved
            // is what the diary had behind the flood.
            while (again <= diary.saved && !isChange(diary.kindOf(again))) {
                again++;
            }
            return again <= diary.saved;
        }

        private boolean isAnythingLeft() {
            return findAgain() || works.nextToTakeBack() != NONE;
        }

        private void doAgain(int entry) {
            int page = diary.pageOf(entry);
            pages.takeIntoHand(page);
            if (pages.markInHand(page) < entry) {
                pages.change(page, diary.thenOf(entry), entry);
            }
        }

        private boolean isNeeded(int entry) {
            int kind = diary.kindOf(entry);
            if (isChange(kind)) {
                return entry > pages.markOnShelf(diary.pageOf(entry));
            }
            return kind == BEGUN && !isEndSaved(diary.workOf(entry));
        }

        private boolean isEndSaved(int work) {
            return !works.isOpen(work) && works.lastOf(work) <= diary.saved;
        }
    }

    /** The states before the latest changes, in a ring that has one row to spare for the next. */
    private static final class History {
        private static final int RING = MOST_UNDONE + 1;
        private final State[] states = new State[RING];
        private int first = 0;
        private int size = 0;

        History() {
            for (int i = 0; i < RING; i++) {
                states[i] = new State();
            }
        }

        int length() {
            return size;
        }

        /** Notes the state before a change that may fail yet. */
        void prepare(State before) {
            State spare = states[(first + size) % RING];
            if (spare != null) {
                spare.become(before);
            }
        }

        /** Records what was noted, but not for an error; returns the answer as it is. */
        int record(int answer) {
            if (answer >= 0 && size < MOST_UNDONE) {
                size++;
            } else if (answer >= 0) {
                first = (first + 1) % RING;
            }
            return answer;
        }

        void takeBack(State into) {
            if (size > 0) {
                size--;
                State latest = states[(first + size) % RING];
                if (latest != null) {
                    into.become(latest);
                }
            }
        }
    }

    /** The states that were kept. */
    private static final class Slots {
        private final State[] states = new State[ALL_SLOTS];

        boolean isFilled(int slot) {
            return isSlot(slot) && states[slot] != null;
        }

        void store(int slot, State state) {
            if (isSlot(slot)) {
                State row = states[slot];
                if (row == null) {
                    row = new State();
                    states[slot] = row;
                }
                row.become(state);
            }
        }

        void fetch(int slot, State into) {
            if (isSlot(slot)) {
                State row = states[slot];
                if (row != null) {
                    into.become(row);
                }
            }
        }
    }

    /** The text of orders. */
    private static final class Pad {
        private final char[] text = new char[MOST_CHARACTERS];
        private int size = 0;

        int length() {
            return size;
        }

        boolean hasRoomFor(int many) {
            return size + many <= MOST_CHARACTERS;
        }

        void append(long characters, int many) {
            for (int i = many - 1; i >= 0 && size < MOST_CHARACTERS; i--) {
                text[size] = (char) (characters >>> (8 * i) & 255);
                size++;
            }
        }

        void empty() {
            size = 0;
        }

        /** Returns the character's code, or 0, which no text holds, where there is none. */
        int at(int index) {
            return index >= 0 && index < size ? text[index] : 0;
        }
    }

    /** The orders that a text tells, read from left to right up to its fault. */
    private static final class Orders {
        // An order has one character at least, so there are never more orders than characters.
        private final int[] verbs = new int[MOST_CHARACTERS];
        private final int[] numbers = new int[MOST_CHARACTERS];
        private final int[] pages = new int[MOST_CHARACTERS];
        private final int[] values = new int[MOST_CHARACTERS];
        private int size = 0;
        private int place = 0;
        private int fault = NONE;

        int firstFault() {
            return fault;
        }

        void read(Pad pad) {
            size = 0;
            place = 0;
            fault = NONE;
            readOrder(pad);
            for (int i = 0; i < MOST_CHARACTERS && fault == NONE && place < pad.length(); i++) {
                expect(pad, ';');
                readOrder(pad);
            }
        }

        int length() {
            return size;
        }

        /** Carries one order out on the state; returns the answer of its call. */
        int obey(int order, State state) {
            if (order < 0 || order >= MOST_CHARACTERS) {
                return NONE;
            }
            switch (verbs[order]) {
                case 'b': return state.beginWork();
                case 'w': return state.writePage(numbers[order], pages[order], values[order]);
                case 'f': return state.finishWork(numbers[order]);
                case 't': return state.tearWork(numbers[order]);
                case 'p': return state.shelvePage(pages[order]);
                case 's': return state.saveEntries(numbers[order]);
                case 'x': return state.takeFlood();
                case 'm': return state.mendSteps(numbers[order]);
                default: return NONE;
            }
        }

        private void readOrder(Pad pad) {
            int verb = pad.at(place);
            if (fault != NONE || size >= MOST_CHARACTERS) {
                return;
            }
            verbs[size] = verb;
            place++;
            switch (verb) {
                case 'b':
                case 'x':
                    break;
                case 'w':
                    numbers[size] = readNumber(pad);
                    expect(pad, '>');
                    pages[size] = readPage(pad);
                    expect(pad, '=');
                    values[size] = readNumber(pad);
                    break;
                case 'p':
                    pages[size] = readPage(pad);
                    break;
                case 'f':
                case 't':
                case 's':
                case 'm':
                    numbers[size] = readNumber(pad);
                    break;
                default:
                    fault = place - 1;
                    return;
            }
            size++;
        }

        // Behind a fault these read no farther, so that it stays the first one.

        private void expect(Pad pad, int due) {
            if (fault != NONE) {
                return;
            }
            if (pad.at(place) == due) {
                place++;
            } else {
                fault = place;
            }
        }

        private int readPage(Pad pad) {
            int page = pad.at(place) - '0';
            if (fault == NONE && !isPage(page)) {
                fault = place;
            }
            if (fault != NONE) {
                return 0;
            }
            place++;
            return page;
        }

        private int readNumber(Pad pad) {
            if (fault == NONE && !isDigit(pad.at(place))) {
                fault = place;
            }
            if (fault != NONE) {
                return 0;
            }
            int number = pad.at(place) - '0';
            place++;
            // A digit that cannot stand here is left to what is expected next, which finds the fault in it.
            for (int digits = 1; digits < MOST_DIGITS && number > 0 && isDigit(pad.at(place)); digits++) {
                number = 10 * number + pad.at(place) - '0';
                place++;
            }
            return number;
        }

        private static boolean isDigit(int code) {
            return code >= '0' && code <= '9';
        }
    }
}
