/** The bounds that promises 19 to 22 name: a test for each sentence, which stands above it. */
public final class TextBoundsTest extends Told {
    private TextBoundsTest() { }

    public static void main(String[] args) {
        runAll(TextBoundsTest.class);
    }

    private static final String DIGITS = "0123456789", PAGES = "01234567", VERBS = "bwftpsxm";

    private static FloodDiary padded(int length) {
        FloodDiary x = new FloodDiary();
        for (int i = 0; i < length / 8; i++) {
            type(x, "b;b;b;b;");
        }
        type(x, "b;b;b;b;".substring(0, length % 8));
        due("count(9)", x.count(9), length);
        return x;
    }

    // Promise 19, "BAD_VALUE if there is no character"
    static void p19NoCharacter() {
        FloodDiary x = new FloodDiary();
        due("put(0)", x.put(0), BAD_VALUE);
        due("count(9)", x.count(9), 0);
    }

    // Promise 19, "a code is not 33 to 126": at each of the eight places.
    static void p19Codes33To126() {
        for (int place = 0; place < 8; place++) {
            long others = 0x6262626262626262L & ~(0xffL << 8 * place);
            for (int code : new int[] {1, 31, 32, 127, 128, 161, 254, 255}) {
                due("put of code " + code + " at " + place, new FloodDiary().put(others | (long) code << 8 * place), BAD_VALUE);
            }
            for (int code : new int[] {33, 34, 125, 126}) {
                due("put of code " + code + " at " + place, new FloodDiary().put(others | (long) code << 8 * place), 8);
            }
        }
    }

    // Promise 19, "`characters`: 1 to 8 characters"
    static void p19From1To8Characters() {
        for (int many = 1; many <= 8; many++) {
            due("put of " + many, new FloodDiary().put(packed("!~!~!~!~".substring(0, many))), many);
        }
    }

    // Promise 19, "a bit above 8 bits that are 0 is not 0": each bit above each place.
    static void p19BitsAbove8BitsThatAre0() {
        for (int many = 0; many < 8; many++) {
            long characters = packed("bbbbbbbb".substring(0, many));
            for (int bit = 8 * many + 8; bit < 64; bit++) {
                due("put of " + many + " and bit " + bit, new FloodDiary().put(characters | 1L << bit), BAD_VALUE);
            }
        }
        due("put of a character above 0", new FloodDiary().put(packed("b") << 8), BAD_VALUE);
        due("put of a character above 56 bits that are 0", new FloodDiary().put(packed("b") << 56), BAD_VALUE);
        due("put of 0 amid", new FloodDiary().put(packed("bbb") << 16 | packed("b")), BAD_VALUE);
        due("put(-1)", new FloodDiary().put(-1), BAD_VALUE);
        due("put(Long.MIN_VALUE)", new FloodDiary().put(Long.MIN_VALUE), BAD_VALUE);
        due("put(Long.MAX_VALUE)", new FloodDiary().put(Long.MAX_VALUE), BAD_VALUE);
    }

    // "its lowest 8 bits are the last character, the next 8 bits the one before, and so on"
    static void p19TheLastCharacterIsTheLowest() {
        FloodDiary x = new FloodDiary();
        x.put(0x773E3D00L >>> 8);
        due("fault() of w>=", x.fault(), 1);
        x = new FloodDiary();
        x.put((long) 'w' << 40 | (long) '0' << 32 | '>' << 24 | '7' << 16 | '=' << 8 | '9');
        due("fault() of w0>7=9", x.fault(), NONE);
    }

    // Promise 19, "TOO_MANY if the pad would be longer than 80"
    static void p19Up80Characters() {
        for (int many = 1; many <= 8; many++) {
            long characters = packed("xxxxxxxx".substring(0, many));
            FloodDiary x = padded(80 - many);
            due("put of " + many + ", 80", x.put(characters), 80);
            due("put of 1, 81", x.put('x'), TOO_MANY);
            x = padded(81 - many);
            due("put of " + many + ", 81", x.put(characters), TOO_MANY);
            due("count(9)", x.count(9), 81 - many);
        }
        due("put of 8, 88", padded(80).put(packed("xxxxxxxx")), TOO_MANY);
    }

    // Promise 19, the order of its errors: BAD_VALUE, TOO_MANY.
    static void p19OrderOfErrors() {
        FloodDiary x = padded(80);
        due("put(0)", x.put(0), BAD_VALUE);
        due("put(32)", x.put(32), BAD_VALUE);
        due("put of a bit above", x.put(0x620000000000L), BAD_VALUE);
        due("put(33)", x.put(33), TOO_MANY);
    }

    // Promise 20, "Empties the pad, and returns the length that it had.": empty, full.
    static void p20EmptyAndFull() {
        FloodDiary x = padded(80);
        due("wipe()", x.wipe(), 80);
        due("wipe()", x.wipe(), 0);
        due("fault(), of an empty text", x.fault(), 0);
        due("put of 8", x.put(packed("b;b;b;b;")), 8);
        due("fault(), nothing is left of the old text", x.fault(), 8);
        due("count(10), no change", x.count(10), 0);
    }

    // Promise 21, "(also if it is empty), it is the length of the text"
    static void p21AnEmptyText() {
        due("fault()", new FloodDiary().fault(), 0);
    }

    /** Behind the beginning of a text just these characters can stand, and no other of those that a pad takes. */
    private static void dueNext(String beginning, String next, boolean whole) {
        due("fault() of " + beginning, faultOf(beginning), whole ? NONE : beginning.length());
        for (char c = 33; c <= 126; c++) {
            String text = beginning + c;
            int fault = faultOf(text);
            boolean stands = fault == NONE || fault == text.length();
            due("whether " + text + " can stand", stands ? 1 : 0, next.indexOf(c) >= 0 ? 1 : 0);
            if (!stands) {
                due("fault() of " + text, fault, beginning.length());
            }
        }
    }

    // "The fault is the index of the first character that cannot stand at its place": at the first place, behind ";".
    static void p21WhereAnOrderBegins() {
        dueNext("", VERBS, false);
        dueNext("b;", VERBS, false);
        dueNext("m1;x;", VERBS, false);
    }

    // "order = "b" | ... | "x"": an order of one character.
    static void p21OrdersOfOneCharacter() {
        dueNext("b", ";", true);
        dueNext("x", ";", true);
        dueNext("p3;x", ";", true);
    }

    // ""w" number ">" page "=" number": each place of it.
    static void p21TheOrderToWrite() {
        dueNext("w", DIGITS, false);
        dueNext("w0", ">", false);
        dueNext("w1", DIGITS + ">", false);
        dueNext("w9", DIGITS + ">", false);
        dueNext("w10", DIGITS + ">", false);
        dueNext("w99", DIGITS + ">", false);
        dueNext("w100", ">", false);
        dueNext("w999", ">", false);
        dueNext("w1>", PAGES, false);
        dueNext("w1>0", "=", false);
        dueNext("w1>7", "=", false);
        dueNext("w1>7=", DIGITS, false);
        dueNext("w1>7=0", ";", true);
        dueNext("w1>7=1", DIGITS + ";", true);
        dueNext("w1>7=10", DIGITS + ";", true);
        dueNext("w1>7=99", DIGITS + ";", true);
        dueNext("w1>7=100", ";", true);
        dueNext("w1>7=999", ";", true);
    }

    // ""f" number | "t" number | ... | "s" number | ... | "m" number": each place of them.
    static void p21OrdersWithANumber() {
        for (String verb : new String[] {"f", "t", "s", "m"}) {
            dueNext(verb, DIGITS, false);
            dueNext(verb + "0", ";", true);
            dueNext(verb + "1", DIGITS + ";", true);
            dueNext(verb + "10", DIGITS + ";", true);
            dueNext(verb + "99", DIGITS + ";", true);
            dueNext(verb + "100", ";", true);
            dueNext(verb + "999", ";", true);
        }
    }

    // ""p" page": "A page is a digit from 0 to 7."
    static void p21TheOrderToPutAway() {
        dueNext("p", PAGES, false);
        dueNext("p0", ";", true);
        dueNext("p7", ";", true);
    }

    // "A number is 0 to 999, without leading zeros."; "(also of a digit by which a number would be above 999)"
    static void p21Numbers() {
        due("fault() of m999", faultOf("m999"), NONE);
        due("fault() of m1000", faultOf("m1000"), 4);
        due("fault() of m9990", faultOf("m9990"), 4);
        due("fault() of m99999", faultOf("m99999"), 4);
        due("fault() of m0", faultOf("m0"), NONE);
        due("fault() of m00", faultOf("m00"), 2);
        due("fault() of m01", faultOf("m01"), 2);
        due("fault() of m000", faultOf("m000"), 2);
        due("fault() of w1000>8=1", faultOf("w1000>8=1"), 4);
    }

    // "The fault is the index of the first character that cannot stand": of two, the first; not one behind it.
    static void p21TheFirstOfTwoFaults() {
        due("fault() of b!b!", faultOf("b!b!"), 1);
        due("fault() of w1>8=", faultOf("w1>8="), 3);
        due("fault() of w01>8=1000", faultOf("w01>8=1000"), 2);
        due("fault() of w?>?=?", faultOf("w?>?=?"), 1);
        due("fault() of !!", faultOf("!!"), 0);
    }

    // "if there is none and the text ends too early ..., it is the length of the text"; a full pad.
    static void p21AFullPad() {
        String seven = "b;b;b;b;".repeat(9);
        due("80 characters, whole", faultOf(seven + "b;b;b;m1"), NONE);
        due("80 characters, the last one cannot stand", faultOf(seven + "b;b;b;bb"), 79);
        due("80 characters that end too early", faultOf(seven + "b;b;b;b;"), 80);
        due("80 characters that end amid an order", faultOf(seven + "b;w1>1="), 79);
        due("80 characters that end amid an order", faultOf(seven + "b;w10>1="), 80);
        due("80 characters, the first one cannot stand", faultOf("?" + seven + "b;b;b;b"), 0);
        due("80 characters, whole, with a number at the end", faultOf(seven + "b;w0>0=1"), NONE);
    }

    // Promise 21: asking for the fault changes nothing.
    static void p21NothingChanges() {
        FloodDiary x = made("b");
        type(x, "b;b!");
        due("fault()", x.fault(), 3);
        due("fault()", x.fault(), 3);
        due("count(9)", x.count(9), 4);
        due("count(10)", x.count(10), 1);
        x.wipe();
        type(x, "b;b");
        due("fault()", x.fault(), NONE);
        due("count(0)", x.count(0), 1);
        due("carryOut()", x.carryOut(), 2);
    }

    // Promise 22, "BAD_TEXT if the pad has a fault (then it stays)": nothing is carried out, nothing is recorded.
    static void p22APadWithAFault() {
        FloodDiary x = made("b");
        due("carryOut() of an empty pad", x.carryOut(), BAD_TEXT);
        type(x, "b;b;");
        due("carryOut()", x.carryOut(), BAD_TEXT);
        dueCounts(x, 1, 1, 0, 0, 0, 0, 0, 0, 1, 4, 1);
        type(x, "b");
        due("carryOut(), the pad stayed", x.carryOut(), 3);
        due("count(0)", x.count(0), 4);
    }

    // Promise 22, "BAD_TEXT if the pad has a fault": at its end, though the orders ahead of it could be carried out.
    static void p22AFaultAtTheEndOfAFullPad() {
        FloodDiary x = padded(80);
        due("carryOut()", x.carryOut(), BAD_TEXT);
        due("count(9)", x.count(9), 80);
        due("count(0)", x.count(0), 0);
        due("wipe()", x.wipe(), 80);
    }

    // "Carries the orders of the pad out, one after the other, up to the first one that returns an error, and empties
    // the pad": those behind it are not carried out.
    static void p22UpToTheFirstError() {
        FloodDiary x = new FloodDiary();
        due("the first one", carryPad(x, "f0;b;b"), 0);
        dueCounts(x, 0, 0, 0, 0, 0, 0, 0, 0, 0, 0, 1);
        due("one amid them", carryPad(x, "b;f1;b"), 1);
        dueCounts(x, 1, 1, 0, 0, 0, 0, 0, 0, 1, 0, 2);
        due("the last one", carryPad(x, "b;b;f3"), 2);
        dueCounts(x, 3, 3, 0, 0, 0, 0, 0, 0, 7, 0, 3);
        due("none", carryPad(x, "b;b;f3"), 3);
        dueCounts(x, 5, 6, 6, 0, 0, 0, 0, 0, 23, 0, 4);
    }

    // Promise 22, "the first one that returns an error": an answer of 0 is none.
    static void p22AnAnswerOf0IsNoError() {
        FloodDiary x = new FloodDiary();
        due("b, w, x and m that answer 0", carryPad(x, "b;w0>0=1;f0;x;x;m1;b;x;m9"), 9);
        due("mend by 1", x.count(5), 2);
    }

    // Promise 22, each order that its method refuses for its number: 0, 999.
    static void p22OrdersThatAreRefused() {
        due("m0", carryPad(new FloodDiary(), "x;m0"), 1);
        due("m999", carryPad(new FloodDiary(), "x;m999"), 2);
        due("m1 without a flood", carryPad(new FloodDiary(), "m1"), 0);
        due("s0", carryPad(new FloodDiary(), "b;s0"), 1);
        due("s2", carryPad(new FloodDiary(), "b;s2"), 1);
        due("s1", carryPad(new FloodDiary(), "b;s1"), 2);
        due("t1", carryPad(new FloodDiary(), "b;t1"), 1);
        due("f999", carryPad(new FloodDiary(), "b;f999"), 1);
        due("p7", carryPad(new FloodDiary(), "b;p7"), 1);
        due("w999", carryPad(new FloodDiary(), "b;w999>0=0"), 1);
        due("b behind a flood", carryPad(new FloodDiary(), "x;b"), 1);
        due("a page that is held", carryPad(new FloodDiary(), "b;b;w0>0=0;w1>0=0"), 3);
    }

    // Promise 22, "(one, with all of them; also if none is carried out)"
    static void p22OneChange() {
        FloodDiary x = new FloodDiary();
        due("of eight", carryPad(x, "b;b;b;b;b;b;b;b"), 8);
        due("count(10)", x.count(10), 1);
        due("of none", carryPad(x, "m1;b"), 0);
        due("count(10)", x.count(10), 2);
        due("undo()", x.undo(), 1);
        due("count(0)", x.count(0), 8);
        due("undo()", x.undo(), 0);
        due("count(0)", x.count(0), 0);
        due("count(9), the pad stays empty", x.count(9), 0);
    }

    // Promise 22: a full pad, 40 orders of one character; and 2 of the longest.
    static void p22AFullPad() {
        FloodDiary x = padded(79);
        due("of 40, 16 works", x.carryOut(), 16);
        due("count(9)", x.count(9), 0);
        x = new FloodDiary();
        due("of 40 floods", carryPad(x, "x;x;x;x;".repeat(9) + "x;x;x;x"), 40);
        due("count(4)", x.count(4), 40);
        due("count(10)", x.count(10), 1);
    }
}
