import java.lang.reflect.InvocationTargetException;
import java.lang.reflect.Method;
import java.lang.reflect.Modifier;
import java.util.Map;
import java.util.TreeMap;

/** What the tests share that are told by hand: diaries made from texts of orders, and rows of due answers. */
abstract class Told {
    static final int NO_SUCH = -1, BAD_VALUE = -2, BAD_TEXT = -3, TOO_MANY = -4, NOT_POSSIBLE = -5, NONE = -6;
    static final int OPEN = 0, FINISHED = 1, TORN = 2;
    static final int BEGUN = 0, WRITTEN = 1, BACK = 2, DONE = 3, LEFT = 4;
    static final int LOWEST = Integer.MIN_VALUE, HIGHEST = Integer.MAX_VALUE;
    static final Check check = new Check();

    /** Runs each static method of the class that has no parameters as a test; its name is told with what is wrong. */
    static void runAll(Class<?> tests) {
        Map<String, Method> found = new TreeMap<>();
        for (Method method : tests.getDeclaredMethods()) {
            if (Modifier.isStatic(method.getModifiers()) && !method.isSynthetic() && method.getParameterCount() == 0
                    && method.getReturnType() == void.class) {
                found.put(method.getName(), method);
            }
        }
        found.forEach(Told::runOne);
        System.out.println(found.size() + " tests");
        check.end();
    }

    private static void runOne(String name, Method test) {
        check.about(name);
        try {
            test.setAccessible(true);
            test.invoke(null);
        } catch (InvocationTargetException thrown) {
            check.holds("throws " + thrown.getCause() + ": a test that throws nothing", false);
        } catch (IllegalAccessException hidden) {
            check.holds("is hidden: a test that can be called", false);
        }
    }

    static void due(String call, long got, long want) {
        check.due(call, got, want);
    }

    /** Carries out a text of orders, and checks that all of them were carried out. */
    static FloodDiary made(String text) {
        FloodDiary x = new FloodDiary();
        carry(x, text);
        return x;
    }

    static void carry(FloodDiary x, String text) {
        int orders = 0;
        StringBuilder pad = new StringBuilder();
        for (String order : text.split(";")) {
            if (pad.length() + 1 + order.length() > 80) {
                due("carryOut of " + pad, carryPad(x, pad.toString()), orders);
                orders = 0;
                pad.setLength(0);
            }
            pad.append(pad.length() == 0 ? "" : ";").append(order);
            orders++;
        }
        due("carryOut of " + pad, carryPad(x, pad.toString()), orders);
    }

    static int carryPad(FloodDiary x, String text) {
        type(x, text);
        return x.carryOut();
    }

    static void type(FloodDiary x, String text) {
        for (int at = 0; at < text.length(); at += 8) {
            x.put(packed(text.substring(at, Math.min(at + 8, text.length()))));
        }
    }

    /** The number by which put() is given up to 8 characters. */
    static long packed(String text) {
        long characters = 0;
        for (int i = 0; i < text.length(); i++) {
            characters = characters << 8 | text.charAt(i);
        }
        return characters;
    }

    static int faultOf(String text) {
        FloodDiary x = new FloodDiary();
        type(x, text);
        return x.fault();
    }

    static void dueCounts(FloodDiary x, int... want) {
        for (int what = 0; what < want.length; what++) {
            due("count(" + what + ")", x.count(what), want[what]);
        }
    }

    static void duePage(FloodDiary x, int page, int... want) {
        for (int what = 0; what < want.length; what++) {
            due("ofPage(" + page + ", " + what + ")", x.ofPage(page, what), want[what]);
        }
    }

    static void dueWork(FloodDiary x, int work, int... want) {
        for (int what = 0; what < want.length; what++) {
            due("ofWork(" + work + ", " + what + ")", x.ofWork(work, what), want[what]);
        }
    }

    static void dueEntry(FloodDiary x, int entry, int... want) {
        for (int what = 0; what < want.length; what++) {
            due("ofEntry(" + entry + ", " + what + ")", x.ofEntry(entry, what), want[what]);
        }
    }

    /** One work that wrote so often, alternately on pages 0 and 1: it has one entry more. */
    static FloodDiary written(int times) {
        FloodDiary x = new FloodDiary();
        x.begin();
        for (int i = 0; i < times; i++) {
            x.write(0, i % 2, i);
        }
        return x;
    }

    /** A diary that has so many entries (4 to 298) when it is mended: work 1 is TORN by that. */
    static FloodDiary mended(int entries) {
        FloodDiary x = new FloodDiary();
        x.begin();
        if (entries % 2 == 1) {
            x.write(0, 7, 1);
        }
        x.finish(0);
        x.begin();
        int writes = (entries - x.count(1) - 1) / 2;
        for (int i = 0; i < writes; i++) {
            x.write(1, i % 2, i);
        }
        x.save(x.count(1));
        x.flood();
        x.mend(999);
        due("count(1) of a mended diary", x.count(1), entries);
        due("count(3) of a mended diary", x.count(3), 0);
        return x;
    }
}
