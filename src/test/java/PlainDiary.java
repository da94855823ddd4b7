import java.util.ArrayDeque;
import java.util.ArrayList;
import java.util.Deque;
import java.util.HashMap;
import java.util.List;
import java.util.Map;
import java.util.regex.Matcher;
import java.util.regex.Pattern;

/**
 * A second diary, written from the document in another way: nothing is held of works, all is looked
 * up in the entries; texts are read by a pattern. It is slow, and the tests compare FloodDiary with it.
 */
final class PlainDiary {
    static final int NO_SUCH = -1, BAD_VALUE = -2, BAD_TEXT = -3, TOO_MANY = -4, NOT_POSSIBLE = -5, NONE = -6;

    enum Kind { BEGUN, WRITTEN, BACK, DONE, LEFT }

    record Entry(Kind kind, int work, int page, int before, int then, int next) { }

    record Leaf(int value, int mark) { }

    /** All that undo brings back; the entry of number n is the one at n - 1. */
    static final class World {
        final List<Entry> entries = new ArrayList<>();
        final Map<Integer, Leaf> shelf = new HashMap<>();
        final Map<Integer, Leaf> hand = new HashMap<>();
        int saved, floods, steps, lost;
        boolean broken, started;
        /** The numbers of the entries that have to be done again yet. */
        final Deque<Integer> again = new ArrayDeque<>();

        World copy() {
            World w = new World();
            w.entries.addAll(entries);
            w.shelf.putAll(shelf);
            w.hand.putAll(hand);
            w.saved = saved;
            w.floods = floods;
            w.steps = steps;
            w.lost = lost;
            w.broken = broken;
            w.started = started;
            w.again.addAll(again);
            return w;
        }

        Entry entry(int number) {
            return entries.get(number - 1);
        }

        int works() {
            return (int) entries.stream().filter(e -> e.kind == Kind.BEGUN).count();
        }

        Leaf shelved(int page) {
            return shelf.getOrDefault(page, new Leaf(0, 0));
        }

        Leaf inHand(int page) {
            return hand.computeIfAbsent(page, this::shelved);
        }

        int lastOf(int work, int ahead) {
            for (int n = Math.min(ahead - 1, entries.size()); n >= 1; n--) {
                if (entry(n).work == work) {
                    return n;
                }
            }
            return 0;
        }

        int lastOf(int work) {
            return lastOf(work, Integer.MAX_VALUE);
        }

        int stateOf(int work) {
            Kind kind = entry(lastOf(work)).kind;
            return kind == Kind.DONE ? 1 : kind == Kind.LEFT ? 2 : 0;
        }

        int goOnOf(int work) {
            int last = lastOf(work);
            return entry(last).kind == Kind.BACK ? entry(last).next : last;
        }

        int pagesOf(int work) {
            int set = 0;
            for (Entry e : entries) {
                if (e.work == work && e.kind == Kind.WRITTEN) {
                    set |= 1 << e.page;
                }
            }
            return set;
        }

        List<Integer> open() {
            List<Integer> open = new ArrayList<>();
            for (int w = 0; w < works(); w++) {
                if (stateOf(w) == 0) {
                    open.add(w);
                }
            }
            return open;
        }

        int holder(int page) {
            for (int w : open()) {
                if ((pagesOf(w) & 1 << page) != 0) {
                    return w;
                }
            }
            return NONE;
        }

        boolean canWrite(int work, int page) {
            for (int w : open()) {
                if (w != work && (pagesOf(w) & 1 << page) != 0) {
                    return false;
                }
            }
            return true;
        }

        void back(int work) {
            int n = goOnOf(work);
            Entry from = entry(n);
            if (from.kind == Kind.BEGUN) {
                entries.add(new Entry(Kind.LEFT, work, NONE, NONE, NONE, NONE));
                return;
            }
            entries.add(new Entry(Kind.BACK, work, from.page, NONE, from.before, lastOf(work, n)));
            hand.put(from.page, new Leaf(from.before, entries.size()));
        }

        int tearDown(int work) {
            int made = 0;
            while (stateOf(work) == 0) {
                back(work);
                made++;
            }
            return made;
        }

        int drown() {
            int taken = entries.size() - saved;
            floods++;
            hand.clear();
            broken = true;
            started = false;
            cut(taken);
            return taken;
        }

        void cut(int many) {
            for (int i = 0; i < many; i++) {
                entries.remove(entries.size() - 1);
            }
            lost += many;
            saved = entries.size();
        }

        boolean step() {
            if (!started) {
                started = true;
                again.clear();
                for (int n = 1; n <= entries.size(); n++) {
                    if (entry(n).kind == Kind.WRITTEN || entry(n).kind == Kind.BACK) {
                        again.add(n);
                    }
                }
            }
            if (!again.isEmpty()) {
                int n = again.remove();
                Entry e = entry(n);
                if (inHand(e.page).mark < n) {
                    hand.put(e.page, new Leaf(e.then, n));
                }
                return true;
            }
            int greatest = -1;
            for (int w : open()) {
                if (greatest < 0 || goOnOf(w) > goOnOf(greatest)) {
                    greatest = w;
                }
            }
            if (greatest < 0) {
                return false;
            }
            back(greatest);
            return true;
        }

        int repair(int limit) {
            int made = 0;
            boolean stuck = false;
            while (made < limit && !stuck) {
                stuck = !step();
                made += stuck ? 0 : 1;
            }
            steps += made;
            if (again.isEmpty() && open().isEmpty()) {
                broken = false;
                saved = entries.size();
            }
            return made;
        }
    }

    World world = new World();
    final Deque<World> past = new ArrayDeque<>();
    final World[] slots = new World[2];
    String pad = "";

    private void remember() {
        past.addLast(world.copy());
        if (past.size() > 6) {
            past.removeFirst();
        }
    }

    private boolean isWork(int work) {
        return work >= 0 && work < world.works();
    }

    private static boolean isPage(int page) {
        return page >= 0 && page <= 7;
    }

    int begin() {
        if (world.works() >= 16 || world.entries.size() >= 150) return TOO_MANY;
        if (world.broken) return NOT_POSSIBLE;
        remember();
        int work = world.works();
        world.entries.add(new Entry(Kind.BEGUN, work, NONE, NONE, NONE, NONE));
        return work;
    }

    int write(int work, int page, int value) {
        if (!isWork(work) || !isPage(page)) return NO_SUCH;
        if (value < 0 || value > 999) return BAD_VALUE;
        if (world.entries.size() >= 150) return TOO_MANY;
        if (world.broken || world.stateOf(work) != 0 || !world.canWrite(work, page)) return NOT_POSSIBLE;
        remember();
        int before = world.inHand(page).value;
        world.entries.add(new Entry(Kind.WRITTEN, work, page, before, value, NONE));
        world.hand.put(page, new Leaf(value, world.entries.size()));
        return before;
    }

    int finish(int work) {
        if (!isWork(work)) return NO_SUCH;
        if (world.entries.size() >= 150) return TOO_MANY;
        if (world.broken || world.stateOf(work) != 0) return NOT_POSSIBLE;
        remember();
        world.entries.add(new Entry(Kind.DONE, work, NONE, NONE, NONE, NONE));
        world.saved = world.entries.size();
        return world.saved;
    }

    int tear(int work) {
        if (!isWork(work)) return NO_SUCH;
        if (world.broken || world.stateOf(work) != 0) return NOT_POSSIBLE;
        World torn = world.copy();
        int made = torn.tearDown(work);
        if (torn.entries.size() > 150) return TOO_MANY;
        remember();
        world = torn;
        return made;
    }

    int save(int entry) {
        if (entry < 1 || entry > world.entries.size()) return NO_SUCH;
        if (world.broken) return NOT_POSSIBLE;
        remember();
        world.saved = Math.max(world.saved, entry);
        return world.saved;
    }

    int putAway(int page) {
        if (!isPage(page)) return NO_SUCH;
        if (world.broken || !world.hand.containsKey(page)) return NOT_POSSIBLE;
        remember();
        world.saved = Math.max(world.saved, world.hand.get(page).mark);
        world.shelf.put(page, world.hand.get(page));
        return world.saved;
    }

    int flood() {
        remember();
        return world.drown();
    }

    int blur(int many) {
        if (many < 1 || many > 5) return BAD_VALUE;
        int left = world.entries.size() - many;
        if (world.floods == 0 || !world.broken || world.started || left < 0) return NOT_POSSIBLE;
        for (Leaf leaf : world.shelf.values()) {
            if (leaf.mark > left) return NOT_POSSIBLE;
        }
        remember();
        world.cut(many);
        return left;
    }

    int mend(int steps) {
        if (steps < 1 || steps > 999) return BAD_VALUE;
        if (!world.broken) return NOT_POSSIBLE;
        remember();
        return world.repair(steps);
    }

    int ofPage(int page, int what) {
        if (!isPage(page)) return NO_SUCH;
        Leaf shelved = world.shelved(page);
        Leaf held = world.hand.get(page);
        return switch (what) {
            case 0 -> shelved.value;
            case 1 -> shelved.mark;
            case 2 -> held == null ? 0 : 1;
            case 3 -> held == null ? NONE : held.value;
            case 4 -> held == null ? NONE : held.mark;
            case 5 -> held == null || held.mark == shelved.mark ? 0 : 1;
            case 6 -> world.broken ? NONE : world.holder(page);
            default -> BAD_VALUE;
        };
    }

    int ofWork(int work, int what) {
        if (!isWork(work)) return NO_SUCH;
        boolean open = world.stateOf(work) == 0;
        return switch (what) {
            case 0 -> world.stateOf(work);
            case 1 -> world.lastOf(work);
            case 2 -> (int) world.entries.stream().filter(e -> e.work == work).count();
            case 3 -> open ? world.pagesOf(work) : 0;
            case 4 -> open ? world.goOnOf(work) : 0;
            default -> BAD_VALUE;
        };
    }

    int ofEntry(int entry, int what) {
        if (entry < 1 || entry > world.entries.size()) return NO_SUCH;
        Entry e = world.entry(entry);
        return switch (what) {
            case 0 -> e.kind.ordinal();
            case 1 -> e.work;
            case 2 -> world.lastOf(e.work, entry);
            case 3 -> e.page;
            case 4 -> e.before;
            case 5 -> e.then;
            case 6 -> e.next;
            case 7 -> entry <= world.saved ? 1 : 0;
            default -> BAD_VALUE;
        };
    }

    int count(int what) {
        return switch (what) {
            case 0 -> world.works();
            case 1 -> world.entries.size();
            case 2 -> world.saved;
            case 3 -> world.broken ? 1 : 0;
            case 4 -> world.floods;
            case 5 -> world.steps;
            case 6 -> world.lost;
            case 7 -> {
                int set = 0;
                for (int page = 0; page < 8; page++) {
                    set |= ofPage(page, 5) << page;
                }
                yield set;
            }
            case 8 -> world.open().stream().mapToInt(w -> 1 << w).sum();
            case 9 -> pad.length();
            case 10 -> past.size();
            default -> BAD_VALUE;
        };
    }

    private World mended() {
        World w = world.copy();
        if (!w.broken) {
            w.drown();
        }
        w.steps = 0;
        w.repair(Integer.MAX_VALUE);
        return w;
    }

    int stepsToMend() {
        return mended().steps;
    }

    int wouldBe(int page) {
        return isPage(page) ? mended().inHand(page).value : NO_SUCH;
    }

    int firstNeeded() {
        for (int n = 1; n <= world.saved; n++) {
            Entry e = world.entry(n);
            boolean change = e.kind == Kind.WRITTEN || e.kind == Kind.BACK;
            if (change && n > world.shelved(e.page).mark) return n;
            if (e.kind == Kind.BEGUN) {
                boolean ended = false;
                for (int m = 1; m <= world.saved; m++) {
                    Entry f = world.entry(m);
                    ended |= f.work == e.work && (f.kind == Kind.DONE || f.kind == Kind.LEFT);
                }
                if (!ended) return n;
            }
        }
        return NONE;
    }

    int settled(int page) {
        if (!isPage(page)) return NO_SUCH;
        if (world.broken) return NOT_POSSIBLE;
        World w = world.copy();
        w.open().forEach(w::tearDown);
        return w.inHand(page).value;
    }

    int put(long characters) {
        StringBuilder text = new StringBuilder();
        boolean ended = false;
        for (int shift = 0; shift < 64; shift += 8) {
            int code = (int) (characters >>> shift) & 0xff;
            if (code == 0) {
                ended = true;
            } else if (ended || code < 33 || code > 126) {
                return BAD_VALUE;
            } else {
                text.insert(0, (char) code);
            }
        }
        if (text.length() == 0) return BAD_VALUE;
        if (pad.length() + text.length() > 80) return TOO_MANY;
        pad += text;
        return pad.length();
    }

    int wipe() {
        int length = pad.length();
        pad = "";
        return length;
    }

    private static final String NUMBER = "(?:0|[1-9][0-9]?[0-9]?)";
    private static final String ORDER =
        "(?:b|x|w" + NUMBER + ">[0-7]=" + NUMBER + "|p[0-7]|[ftsm]" + NUMBER + ")";
    private static final Pattern TEXT = Pattern.compile(ORDER + "(?:;" + ORDER + ")*");

    int fault() {
        for (int end = 1; end <= pad.length(); end++) {
            Matcher matcher = TEXT.matcher(pad.substring(0, end));
            if (!matcher.matches() && !matcher.hitEnd()) return end - 1;
        }
        return TEXT.matcher(pad).matches() ? NONE : pad.length();
    }

    int carryOut() {
        if (fault() != NONE) return BAD_TEXT;
        World start = world.copy();
        List<World> earlier = new ArrayList<>(past);
        int carried = 0;
        for (String order : pad.split(";")) {
            if (obey(order) < 0) break;
            carried++;
        }
        past.clear();
        past.addAll(earlier);
        World end = world;
        world = start;
        remember();
        world = end;
        pad = "";
        return carried;
    }

    private int obey(String order) {
        String[] parts = order.substring(1).split("[>=]");
        int first = parts[0].isEmpty() ? 0 : Integer.parseInt(parts[0]);
        return switch (order.charAt(0)) {
            case 'b' -> begin();
            case 'w' -> write(first, Integer.parseInt(parts[1]), Integer.parseInt(parts[2]));
            case 'f' -> finish(first);
            case 't' -> tear(first);
            case 'p' -> putAway(first);
            case 's' -> save(first);
            case 'x' -> flood();
            default -> mend(first);
        };
    }

    int undo() {
        if (past.isEmpty()) return NOT_POSSIBLE;
        world = past.removeLast();
        return past.size();
    }

    int keep(int slot) {
        if (slot < 0 || slot > 1) return BAD_VALUE;
        slots[slot] = world.copy();
        return world.entries.size();
    }

    int bring(int slot) {
        if (slot < 0 || slot > 1) return BAD_VALUE;
        if (slots[slot] == null) return NOT_POSSIBLE;
        remember();
        world = slots[slot].copy();
        return world.entries.size();
    }
}
