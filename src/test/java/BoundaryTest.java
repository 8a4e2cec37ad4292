import java.util.TreeSet;

/**
 * The boundary cases that the promises name, sentence by sentence: each test bears the words that
 * it stands for, and makes objects of its own, which it asks no more than their 512 calls.
 */
public final class BoundaryTest {
    private static final int REFUSED = -2;
    private static final int LAST = 0x10FFFF;
    private static final int FF = 0xFF;
    private static final int MIN = Integer.MIN_VALUE;
    private static final int MAX = Integer.MAX_VALUE;
    private static final int[] NO_SETS = {-1, 8, 9, -8, 256, MIN, MAX};

    private static final TreeSet<String> SENTENCES = new TreeSet<>();

    private static int wrong = 0;
    private static String sentence = "";

    private interface Call {
        int on(CharacterSets x);
    }

    private static void test(String words) {
        sentence = words;
        SENTENCES.add(words);
    }

    private static void due(String call, int got, int want) {
        if (got != want) {
            wrong++;
            System.out.println(sentence + " | " + call + " answered " + got + ", due is " + want);
        }
    }

    /** The SET has exactly these ranges: first and last of each. */
    private static void dueRanges(String call, CharacterSets x, int s, int... ends) {
        int members = 0;
        for (int i = 0; i < ends.length; i += 2) {
            due(call + ": low of range " + i / 2 + " of SET " + s, x.bound(s, i / 2, false), ends[i]);
            due(call + ": high of range " + i / 2 + " of SET " + s, x.bound(s, i / 2, true), ends[i + 1]);
            members += ends[i + 1] - ends[i] + 1;
        }
        due(call + ": ranges of SET " + s, x.bound(s, ends.length / 2, false), REFUSED);
        due(call + ": size of SET " + s, x.size(s), members);
    }

    private static int last(int mode) {
        return (mode & 1) != 0 ? LAST : FF;
    }

    // ---- an object whose SETS are empty, full and between, to see what a call changes

    private static int[][] filling(int mode) {
        int last = last(mode);
        return new int[][] {
            {}, {0, last}, {0, 0}, {last, last}, {0x41, 0x5A, 0x6B, 0x6B}, {0x10, 0x19, 0x1B, 0x29},
            {0xB5, 0xB5, 0xE5, 0xE5}, {0, 0x5E, 0x60, last - 1}};
    }

    private static CharacterSets filled(int mode) {
        CharacterSets x = new CharacterSets(mode);
        int[][] sets = filling(mode);
        for (int s = 0; s < 8; s++) {
            for (int i = 0; i < sets[s].length; i += 2) {
                x.range(s, sets[s][i], sets[s][i + 1]);
            }
        }
        return x;
    }

    /** All SETS but one are as they were filled; -1: all. */
    private static void dueUnchanged(String call, CharacterSets x, int mode, int but) {
        int[][] sets = filling(mode);
        for (int s = 0; s < 8; s++) {
            if (s != but) {
                dueRanges(call + " changes nothing", x, s, sets[s]);
            }
        }
    }

    /** The call is REFUSED in this mode and changes nothing. */
    private static void dueRefused(String name, int mode, Call call) {
        CharacterSets x = filled(mode);
        String where = "mode " + mode + ", " + name;
        due(where, call.on(x), REFUSED);
        dueUnchanged(where, x, mode, -1);
        due(where + ": the mode stays, UTF", x.property(0, 44, false, false), 1);
        due(where + ": the mode stays, UTF", x.size(0), last(mode) + 1);
        x.clear(0);
        x.named(0, 13, false, false);
        due(where + ": the mode stays, UCP", x.has(0, 0x80), (mode & 2) != 0 ? 1 : 0);
    }

    private static void dueRefusedInAllModes(String name, Call call) {
        for (int mode = 0; mode < 4; mode++) {
            dueRefused(name, mode, call);
        }
    }

    public static void main(String[] args) {
        newObjects();
        clearing();
        rangesThatCome();
        rangesThatAreRefused();
        propertyNumbers();
        propertiesAtTheEdges();
        propertiesNotAndCaseless();
        propertiesThatAreRefused();
        namedNumbers();
        namedNotAndCaseless();
        namedThatAreRefused();
        closing();
        closingInModes();
        inverting();
        joining();
        meeting();
        comparing();
        having();
        counting();
        finding();
        bounds();
        boundsThatAreRefused();
        aboutInAnyMode();
        aboutOfOneThatThereIs();
        aboutThatIsRefused();
        setsThatThereAreNot();
        setsThatDoNotChange();
        lastCalls();
        System.out.println(SENTENCES.size() + " sentences, " + (wrong == 0 ? "all answers are as due"
                : wrong + " answers are not as due"));
        if (wrong != 0) {
            System.exit(1);
        }
    }

    // ---- promise 1

    private static void newObjects() {
        test("1: All SETS are empty.");
        for (int mode = 0; mode < 4; mode++) {
            CharacterSets x = new CharacterSets(mode);
            for (int s = 0; s < 8; s++) {
                dueRanges("mode " + mode, x, s);
                due("least(" + s + ", 0)", x.least(s, 0), -1);
                due("has(" + s + ", 0)", x.has(s, 0), 0);
                due("same(0, " + s + ")", x.same(0, s), 1);
                due("meets(0, " + s + ")", x.meets(0, s), 0);
            }
        }
        test("1: bit 0 set: UTF");
        for (int mode = 0; mode < 4; mode++) {
            CharacterSets x = new CharacterSets(mode);
            boolean utf = mode == 1 || mode == 3;
            due("mode " + mode + ", range(0, 100, 100)", x.range(0, 0x100, 0x100), utf ? 1 : REFUSED);
            due("mode " + mode + ", invert(1)", x.invert(1), 1);
            due("mode " + mode + ", size(1)", x.size(1), utf ? 0x110000 : 0x100);
        }
        test("1: bit 1 set: UCP");
        for (int mode = 0; mode < 4; mode++) {
            CharacterSets x = new CharacterSets(mode);
            boolean ucp = mode == 2 || mode == 3;
            due("mode " + mode + ", named(0, 5)", x.named(0, 5, false, false) > 2 ? 1 : 0, ucp ? 1 : 0);
            due("mode " + mode + ", has(0, AA)", x.has(0, 0xAA), ucp ? 1 : 0);
        }
        test("1: other bits say nothing.");
        int[] others = {4, 8, 0x100, 1 << 30, MIN, ~3};
        for (int other : others) {
            for (int mode = 0; mode < 4; mode++) {
                CharacterSets x = new CharacterSets(other | mode);
                x.property(0, 44, false, false);
                due("mode " + (other | mode) + ", size of all", x.size(0), last(mode) + 1);
                x.named(1, 5, false, false);
                due("mode " + (other | mode) + ", AA is alpha", x.has(1, 0xAA), mode / 2);
                due("mode " + (other | mode) + ", LOWER of C0", x.about(0xC0, 3), mode == 0 ? 0xC0 : 0xE0);
            }
        }
        test("1: both hold for good");
        for (int mode = 0; mode < 4; mode++) {
            CharacterSets x = filled(mode);
            x.clear(1);
            x.range(1, 0, last(mode));
            x.property(4, 0, true, true);
            x.named(5, 18, true, true);
            x.close(6);
            x.invert(1);
            x.join(3, 2);
            x.about(LAST, 0);
            due("mode " + mode + ", invert(1) again", x.invert(1), 1);
            due("mode " + mode + ", size(1)", x.size(1), last(mode) + 1);
            x.clear(0);
            x.named(0, 5, false, false);
            due("mode " + mode + ", AA is alpha", x.has(0, 0xAA), mode / 2);
        }
    }

    // ---- promise 2

    private static void clearing() {
        test("2: SET s becomes empty: 0.");
        for (int mode = 0; mode < 4; mode++) {
            for (int s = 0; s < 8; s++) {
                CharacterSets x = filled(mode);
                due("clear(" + s + ")", x.clear(s), 0);
                dueRanges("clear(" + s + ")", x, s);
                dueUnchanged("clear(" + s + ") beside it", x, mode, s);
                due("clear(" + s + ") again", x.clear(s), 0);
                x.range((s + 1) % 8, 0, last(mode));
                due("what was cleared meets all", x.meets(s, (s + 1) % 8), 0);
                due("all meets what was cleared", x.meets((s + 1) % 8, s), 0);
                due("has(" + s + ", 0)", x.has(s, 0), 0);
                due("invert(" + s + ")", x.invert(s), 1);
                due("size(" + s + ")", x.size(s), last(mode) + 1);
            }
        }
    }

    // ---- promise 3

    private static void rangesThatCome() {
        for (int mode = 0; mode < 4; mode++) {
            int last = last(mode);
            test("3: All characters from low to high come to SET s (the first, the last, one, all)");
            CharacterSets x = new CharacterSets(mode);
            due("the first", x.range(0, 0, 0), 1);
            dueRanges("the first", x, 0, 0, 0);
            due("the last", x.range(1, last, last), 1);
            dueRanges("the last", x, 1, last, last);
            due("the last two", x.range(2, last - 1, last), 1);
            dueRanges("the last two", x, 2, last - 1, last);
            due("all", x.range(3, 0, last), 1);
            dueRanges("all", x, 3, 0, last);
            due("to a full SET", x.range(3, 0, last), 1);
            due("one to a full SET", x.range(3, last, last), 1);
            dueRanges("one to a full SET", x, 3, 0, last);

            test("3: how many ranges it has then, whether it had them before or not");
            due("the first again", x.range(0, 0, 0), 1);
            due("the last, too", x.range(0, last, last), 2);
            due("the last again", x.range(0, last, last), 2);
            dueRanges("both ends", x, 0, 0, 0, last, last);
            due("all but the ends", x.range(0, 1, last - 1), 1);
            dueRanges("all but the ends", x, 0, 0, last);
        }
        test("3: a range: a row of members one behind the other, as long as can be");
        CharacterSets x = new CharacterSets(0);
        x.range(0, 0x20, 0x29);
        due("one missing behind", x.range(0, 0x2B, 0x2F), 2);
        due("one missing before", x.range(0, 0x1E, 0x1E), 3);
        dueRanges("three", x, 0, 0x1E, 0x1E, 0x20, 0x29, 0x2B, 0x2F);
        due("the missing one before", x.range(0, 0x1F, 0x1F), 2);
        due("the missing one behind", x.range(0, 0x2A, 0x2A), 1);
        dueRanges("grown together", x, 0, 0x1E, 0x2F);
        due("right before", x.range(0, 0x1D, 0x1D), 1);
        due("right behind", x.range(0, 0x30, 0x30), 1);
        due("from its low on", x.range(0, 0x1D, 0x1E), 1);
        due("up to its high", x.range(0, 0x2F, 0x30), 1);
        due("over its low", x.range(0, 0x1B, 0x1D), 1);
        due("over its high", x.range(0, 0x30, 0x32), 1);
        dueRanges("grown at both ends", x, 0, 0x1B, 0x32);
        x.range(1, 0x10, 0x11);
        x.range(1, 0x14, 0x15);
        x.range(1, 0x18, 0x19);
        x.range(1, 0x1C, 0x1D);
        due("over two of four", x.range(1, 0x13, 0x1A), 3);
        dueRanges("over two of four", x, 1, 0x10, 0x11, 0x13, 0x1A, 0x1C, 0x1D);
        due("touches those on both sides", x.range(1, 0x12, 0x1B), 1);
        dueRanges("touches those on both sides", x, 1, 0x10, 0x1D);
        CharacterSets y = new CharacterSets(1);
        due("numbers without a CATEGORY are characters", y.range(0, 0xD800, 0xDFFF), 1);
        due("FF with 100", y.range(1, FF, 0x100), 1);
    }

    private static void dueRangeRefused(int mode, int low, int high) {
        for (int s = 0; s < 8; s++) {
            int set = s;
            dueRefused("range(" + s + ", " + low + ", " + high + ")", mode, x -> x.range(set, low, high));
        }
    }

    private static void rangesThatAreRefused() {
        for (int mode = 0; mode < 4; mode++) {
            int last = last(mode);
            test("3: REFUSED too: low is above high");
            dueRangeRefused(mode, 1, 0);
            dueRangeRefused(mode, 0x5F, 0x5E);
            dueRangeRefused(mode, last, last - 1);
            dueRangeRefused(mode, last, 0);
            test("3: REFUSED too: one is no character that there is (low below 0)");
            dueRangeRefused(mode, -1, 0);
            dueRangeRefused(mode, -1, last);
            dueRangeRefused(mode, MIN, 5);
            test("3: REFUSED too: one is no character that there is (high above the last)");
            dueRangeRefused(mode, 0, last + 1);
            dueRangeRefused(mode, last, last + 1);
            dueRangeRefused(mode, 5, MAX);
            test("3: REFUSED too: one is no character that there is (neither is)");
            dueRangeRefused(mode, -1, -1);
            dueRangeRefused(mode, last + 1, last + 1);
            dueRangeRefused(mode, -1, last + 1);
            dueRangeRefused(mode, MIN, MIN);
            dueRangeRefused(mode, MAX, MAX);
            dueRangeRefused(mode, MIN, MAX);
            dueRangeRefused(mode, MAX, MIN);
        }
        test("3: REFUSED too: no character that there is (0 .. FF without UTF)");
        for (int mode = 0; mode < 4; mode += 2) {
            dueRangeRefused(mode, 0x41, 0x100);
            dueRangeRefused(mode, 0x100, 0x100);
            dueRangeRefused(mode, 0x100, LAST);
            dueRangeRefused(mode, 0, LAST);
        }
    }

    // ---- promise 4

    /* One of each CATEGORY and of each SCRIPT, by its number. */
    private static final int[] OF_CATEGORY = {
        0x180, 0x1F, 0xAD, 0xF8FF, 0x7A, 0xAA, 0x5A, 0x36F, 0x39, 0x216F, 0xBE, 0x5F, 0x2D, 0x7D, 0xBB,
        0xAB, 0x40, 0x7B, 0x24, 0x60, 0x7E, 0xA6, 0x2028, 0x2029, 0x3000};
    private static final int[] OF_SCRIPT = {
        0x3A2, 0x40, 0x5A, 0x3C9, 0x45F, 0x5EA, 0x64A, 0x3096, 0x30FA, 0x9FFF, 0xD7A3, 0x36F};
    private static final String FIRST_LETTERS = "CCCCLLLMNNNPPPPPPPSSSSZZZ";

    /** A property with UTF, alone in a SET. */
    private static CharacterSets withProperty(int k) {
        CharacterSets x = new CharacterSets(1);
        x.property(7, k, false, false);
        return x;
    }

    private static void propertyNumbers() {
        test("4: k: 0 to 24 a CATEGORY");
        for (int k = 0; k <= 24; k++) {
            CharacterSets x = withProperty(k);
            for (int i = 0; i <= 24; i++) {
                due("property " + k + " has " + OF_CATEGORY[i], x.has(7, OF_CATEGORY[i]), i == k ? 1 : 0);
            }
        }
        test("4: 25 to 31 the CATEGORIES that begin with C, L, M, N, P, S, Z");
        for (int k = 25; k <= 31; k++) {
            CharacterSets x = withProperty(k);
            for (int i = 0; i <= 24; i++) {
                int in = FIRST_LETTERS.charAt(i) == "CLMNPSZ".charAt(k - 25) ? 1 : 0;
                due("property " + k + " has " + OF_CATEGORY[i], x.has(7, OF_CATEGORY[i]), in);
            }
        }
        test("4: 32 to 43 the SCRIPTS from Unknown on");
        for (int k = 32; k <= 43; k++) {
            CharacterSets x = withProperty(k);
            for (int i = 0; i <= 11; i++) {
                due("property " + k + " has " + OF_SCRIPT[i], x.has(7, OF_SCRIPT[i]), i == k - 32 ? 1 : 0);
            }
        }
        test("4: 44 all");
        dueRanges("property 44", withProperty(44), 7, 0, LAST);
        test("4: 45 Lu and Ll, 46 L and N, 47 these and 5F, 48 9-D, 85 and Z");
        for (int i = 0; i <= 24; i++) {
            char letter = FIRST_LETTERS.charAt(i);
            int c = OF_CATEGORY[i];
            boolean alnum = letter == 'L' || letter == 'N';
            due("45 has " + c, withProperty(45).has(7, c), i == 4 || i == 6 ? 1 : 0);
            due("46 has " + c, withProperty(46).has(7, c), alnum ? 1 : 0);
            due("47 has " + c, withProperty(47).has(7, c), alnum || c == 0x5F ? 1 : 0);
            due("48 has " + c, withProperty(48).has(7, c), letter == 'Z' ? 1 : 0);
        }
        test("4: 47 these and 5F");
        CharacterSets word = withProperty(47);
        due("5E", word.has(7, 0x5E), 0);
        due("5F", word.has(7, 0x5F), 1);
        due("60", word.has(7, 0x60), 0);
        test("4: 48 9-D, 85 and Z");
        dueRanges("48", withProperty(48), 7, 9, 0xD, 0x20, 0x20, 0x85, 0x85, 0xA0, 0xA0,
                0x2000, 0x200A, 0x2028, 0x2029, 0x202F, 0x202F, 0x205F, 0x205F, 0x3000, 0x3000);
    }

    private static void propertiesAtTheEdges() {
        test("4: A property's characters come to SET s: its ranges.");
        for (int mode = 0; mode < 4; mode++) {
            CharacterSets x = filled(mode);
            due("to an empty SET", x.property(0, 11, false, false), 1);
            dueRanges("to an empty SET", x, 0, 0x5F, 0x5F);
            due("again", x.property(0, 11, false, false), 1);
            due("to a full SET", x.property(1, 11, false, false), 1);
            dueRanges("to a full SET", x, 1, 0, last(mode));
            due("right before and right behind", x.property(7, 11, false, false), 1);
            dueRanges("right before and right behind", x, 7, 0, last(mode) - 1);
            due("all to an empty SET", x.property(2, 44, false, false), 1);
            dueRanges("all to an empty SET", x, 2, 0, last(mode));
        }
        test("Terms: without UTF only characters to FF are there: what else is left out (property)");
        int[] beyond = {3, 7, 9, 22, 23, 27, 32, 35, 36, 37, 38, 39, 40, 41, 42, 43};
        for (int mode = 0; mode < 4; mode += 2) {
            for (int k : beyond) {
                CharacterSets x = new CharacterSets(mode);
                due("nothing of property " + k, x.property(0, k, false, false), 0);
                dueRanges("property " + k, x, 0);
                due("all but property " + k, x.property(1, k, true, false), 1);
                dueRanges("all but property " + k, x, 1, 0, FF);
            }
            CharacterSets x = new CharacterSets(mode);
            due("Cn", x.property(0, 0, false, false), 0);
            due("Ll", x.property(1, 4, false, false), 4);
            dueRanges("Ll", x, 1, 0x61, 0x7A, 0xB5, 0xB5, 0xDF, 0xF6, 0xF8, FF);
            due("Lu", x.property(2, 6, false, false), 3);
            dueRanges("Lu", x, 2, 0x41, 0x5A, 0xC0, 0xD6, 0xD8, 0xDE);
            due("Zs", x.property(3, 24, false, false), 2);
            dueRanges("Zs", x, 3, 0x20, 0x20, 0xA0, 0xA0);
            due("48", x.property(4, 48, false, false), 4);
            dueRanges("48", x, 4, 9, 0xD, 0x20, 0x20, 0x85, 0x85, 0xA0, 0xA0);
        }
    }

    private static void propertiesNotAndCaseless() {
        test("4: or (not) all others that there are");
        for (int mode = 0; mode < 4; mode++) {
            int last = last(mode);
            CharacterSets x = filled(mode);
            due("not Pc", x.property(0, 11, true, false), 2);
            dueRanges("not Pc", x, 0, 0, 0x5E, 0x60, last);
            due("Pc, too", x.property(0, 11, false, false), 1);
            dueRanges("Pc and not Pc", x, 0, 0, last);
            due("not Pc to a full SET", x.property(1, 11, true, false), 1);
            due("not all to the first", x.property(2, 44, true, false), 1);
            dueRanges("not all to the first", x, 2, 0, 0);
            due("not all to nothing", x.clear(3) + x.property(3, 44, true, false), 0);
            dueRanges("not all to nothing", x, 3);
            due("not Unknown", x.clear(4) + x.property(4, 32, true, false) > 1 ? 1 : 0, mode & 1);
            due("not Unknown, first", x.bound(4, 0, false), 0);
            due("not Cc", x.clear(5) + x.property(5, 1, true, false), 2);
            dueRanges("not Cc", x, 5, 0x20, 0x7E, 0xA0, last);
        }
        test("4: CASELESS: 4 and 6 mean 45");
        for (int mode = 0; mode < 4; mode++) {
            CharacterSets x = new CharacterSets(mode);
            x.property(0, 45, false, false);
            x.property(1, 4, false, true);
            x.property(2, 6, false, true);
            due("4 is 45", x.same(0, 1), 1);
            due("6 is 45", x.same(0, 2), 1);
            x.invert(0);
            x.property(3, 4, true, true);
            x.property(4, 6, true, true);
            due("not 4 is not 45", x.same(0, 3), 1);
            due("not 6 is not 45", x.same(0, 4), 1);
        }
        test("4: CASELESS: 4 and 6 (alone) mean 45");
        for (int k = 0; k <= 48; k++) {
            CharacterSets x = new CharacterSets(3);
            x.property(0, k, false, false);
            x.property(1, k, false, true);
            x.property(2, k, true, false);
            x.property(3, k, true, true);
            due("property " + k + " is as it is caseless", x.same(0, 1), k == 4 || k == 6 ? 0 : 1);
            due("all but property " + k, x.same(2, 3), k == 4 || k == 6 ? 0 : 1);
        }
    }

    private static void propertiesThatAreRefused() {
        test("4: k: 0 to 24 .. 48 (other numbers are REFUSED)");
        int[] none = {-1, 49, 50, 48 + 32, 48 + 64, 256, MIN, MAX};
        for (int k : none) {
            for (int s = 0; s < 8; s++) {
                int set = s;
                dueRefusedInAllModes("property(" + s + ", " + k + ")", x -> x.property(set, k, false, false));
                dueRefusedInAllModes("property(" + s + ", " + k + "), not",
                        x -> x.property(set, k, true, false));
            }
            dueRefusedInAllModes("property(4, " + k + "), caseless", x -> x.property(4, k, false, true));
            dueRefusedInAllModes("property(4, " + k + "), not, caseless", x -> x.property(4, k, true, true));
        }
        for (int mode = 0; mode < 4; mode++) {
            CharacterSets x = new CharacterSets(mode);
            due("the first k", x.property(0, 0, true, false) > 0 ? 1 : 0, 1);
            due("the last k", x.property(1, 48, false, false) > 0 ? 1 : 0, 1);
        }
    }

    // ---- promise 5

    private static void dueNamed(int mode, int k, int... ends) {
        int last = last(mode);
        CharacterSets x = new CharacterSets(mode);
        String call = "mode " + mode + ", named " + k;
        due(call, x.named(0, k, false, false), ends.length / 2);
        dueRanges(call, x, 0, ends);
        x.named(1, k, true, false);
        due(call + ", not: nothing in both", x.meets(0, 1), 0);
        due(call + ", not: all others that there are", x.size(1), last + 1 - x.size(0));
        due(call + ", not: up to the last", x.join(1, 0), 1);
        due(call + ", not: up to the last", x.bound(1, 0, true), last);
    }

    private static void namedNumbers() {
        int[][] ascii = {
            {0x30, 0x39}, {0x30, 0x39, 0x41, 0x5A, 0x5F, 0x5F, 0x61, 0x7A}, {9, 0xD, 0x20, 0x20},
            {9, 9, 0x20, 0x20, 0xA0, 0xA0}, {0xA, 0xD, 0x85, 0x85},
            {0x41, 0x5A, 0x61, 0x7A}, {0x61, 0x7A}, {0x41, 0x5A}, {0x30, 0x39},
            {0x30, 0x39, 0x41, 0x5A, 0x61, 0x7A}, {0x30, 0x39, 0x41, 0x5A, 0x5F, 0x5F, 0x61, 0x7A},
            {9, 0xD, 0x20, 0x20}, {9, 9, 0x20, 0x20}, {0, 0x1F, 0x7F, 0x7F}, {0x21, 0x7E}, {0x20, 0x7E},
            {0x21, 0x2F, 0x3A, 0x40, 0x5B, 0x60, 0x7B, 0x7E},
            {0x30, 0x39, 0x41, 0x46, 0x61, 0x66}, {0, 0x7F}};
        int[] horizontal = {9, 9, 0x20, 0x20, 0xA0, 0xA0, 0x1680, 0x1680, 0x180E, 0x180E, 0x2000, 0x200A,
            0x202F, 0x202F, 0x205F, 0x205F, 0x3000, 0x3000};
        int[] vertical = {0xA, 0xD, 0x85, 0x85, 0x2028, 0x2029};
        int[] space = {9, 0xD, 0x20, 0x20, 0x85, 0x85, 0xA0, 0xA0, 0x2000, 0x200A, 0x2028, 0x2029,
            0x202F, 0x202F, 0x205F, 0x205F, 0x3000, 0x3000};
        test("5: k: 0 \\d .. 18 ascii, without UCP (ends of each)");
        for (int k = 0; k <= 18; k++) {
            dueNamed(0, k, ascii[k]);
            dueNamed(1, k, k == 3 ? horizontal : k == 4 ? vertical : ascii[k]);
        }
        test("5: k: 0 \\d .. 18 ascii, with UCP (ends of each)");
        dueNamed(3, 0, 0x30, 0x39, 0x660, 0x669);
        dueNamed(3, 2, space);
        dueNamed(3, 3, horizontal);
        dueNamed(3, 4, vertical);
        dueNamed(3, 8, 0x30, 0x39, 0x660, 0x669);
        dueNamed(3, 11, space);
        dueNamed(3, 12, horizontal);
        dueNamed(3, 13, 0, 0x1F, 0x7F, 0x9F);
        dueNamed(3, 16, 0x21, 0x2F, 0x3A, 0x40, 0x5B, 0x60, 0x7B, 0x7E, 0xA1, 0xA1, 0xA7, 0xA7,
                0xAB, 0xAB, 0xB6, 0xB7, 0xBB, 0xBB, 0xBF, 0xBF, 0x2010, 0x2027);
        dueNamed(3, 17, ascii[17]);
        dueNamed(3, 18, ascii[18]);
        test("Terms: with UCP L, Ll, Lu, Nd, (L, N), (L, N, 5F), cntrl Cc");
        int[][] asProperty = {{0, 8}, {1, 47}, {2, 48}, {5, 26}, {6, 4}, {7, 6}, {8, 8}, {9, 46}, {10, 47},
            {11, 48}, {13, 1}};
        for (int mode = 2; mode < 4; mode++) {
            for (int[] pair : asProperty) {
                CharacterSets x = new CharacterSets(mode);
                int ranges = x.property(0, pair[1], false, false);
                due("named " + pair[0], x.named(1, pair[0], false, false), ranges);
                due("named " + pair[0] + " is property " + pair[1], x.same(0, 1), 1);
            }
        }
        test("Terms: graph all but Z, Cc, Cn, print graph and Zs");
        for (int i = 0; i <= 24; i++) {
            CharacterSets x = new CharacterSets(3);
            x.named(0, 14, false, false);
            x.named(1, 15, false, false);
            boolean graph = i >= 2 && i <= 21;
            due("graph has " + OF_CATEGORY[i], x.has(0, OF_CATEGORY[i]), graph ? 1 : 0);
            due("print has " + OF_CATEGORY[i], x.has(1, OF_CATEGORY[i]), graph || i == 24 ? 1 : 0);
        }
        test("Terms: without UTF only characters to FF are there: what else is left out (named)");
        dueNamed(2, 0, 0x30, 0x39);
        dueNamed(2, 2, 9, 0xD, 0x20, 0x20, 0x85, 0x85, 0xA0, 0xA0);
        dueNamed(2, 3, ascii[3]);
        dueNamed(2, 4, ascii[4]);
        dueNamed(2, 6, 0x61, 0x7A, 0xB5, 0xB5, 0xDF, 0xF6, 0xF8, FF);
        dueNamed(2, 12, ascii[3]);
        dueNamed(2, 13, 0, 0x1F, 0x7F, 0x9F);
        dueNamed(2, 14, 0x21, 0x7E, 0xA1, FF);
        dueNamed(2, 15, 0x20, 0x7E, 0xA0, FF);
    }

    private static void namedNotAndCaseless() {
        test("5: A NAMED SET's characters (come to what is there): its ranges.");
        for (int mode = 0; mode < 4; mode++) {
            int last = last(mode);
            CharacterSets x = filled(mode);
            due("ascii to an empty SET", x.named(0, 18, false, false), 1);
            due("again", x.named(0, 18, false, false), 1);
            dueRanges("ascii", x, 0, 0, 0x7F);
            due("ascii to a full SET", x.named(1, 18, false, false), 1);
            dueRanges("ascii to a full SET", x, 1, 0, last);
            due("ascii to the last", x.named(3, 18, false, false), 2);
            dueRanges("ascii to the last", x, 3, 0, 0x7F, last, last);
            test("5: or (not) all others that there are");
            due("not ascii to the first", x.named(2, 18, true, false), 2);
            dueRanges("not ascii to the first", x, 2, 0, 0, 0x80, last);
            due("ascii and not ascii", x.named(2, 18, false, false), 1);
            dueRanges("ascii and not ascii", x, 2, 0, last);
            due("not ascii to a full SET", x.named(1, 18, true, false), 1);
        }
        test("Terms: CASELESS, lower and upper mean alpha.");
        for (int mode = 0; mode < 4; mode++) {
            CharacterSets x = new CharacterSets(mode);
            x.named(0, 5, false, false);
            x.named(1, 6, false, true);
            x.named(2, 7, false, true);
            due("lower is alpha", x.same(0, 1), 1);
            due("upper is alpha", x.same(0, 2), 1);
            x.invert(0);
            x.named(3, 6, true, true);
            x.named(4, 7, true, true);
            due("not lower is not alpha", x.same(0, 3), 1);
            due("not upper is not alpha", x.same(0, 4), 1);
        }
        test("Terms: CASELESS, lower and upper (alone) mean alpha.");
        for (int mode = 0; mode < 4; mode++) {
            for (int k = 0; k <= 18; k++) {
                CharacterSets x = new CharacterSets(mode);
                x.named(0, k, false, false);
                x.named(1, k, false, true);
                x.named(2, k, true, false);
                x.named(3, k, true, true);
                due("named " + k + " is as it is caseless", x.same(0, 1), k == 6 || k == 7 ? 0 : 1);
                due("all but named " + k, x.same(2, 3), k == 6 || k == 7 ? 0 : 1);
            }
        }
    }

    private static void namedThatAreRefused() {
        test("5: k: 0 \\d .. 18 ascii (other numbers are REFUSED)");
        int[] none = {-1, 19, 20, 18 + 32, 256, MIN, MAX};
        for (int k : none) {
            for (int s = 0; s < 8; s++) {
                int set = s;
                dueRefusedInAllModes("named(" + s + ", " + k + ")", x -> x.named(set, k, false, false));
                dueRefusedInAllModes("named(" + s + ", " + k + "), not", x -> x.named(set, k, true, false));
            }
            dueRefusedInAllModes("named(4, " + k + "), caseless", x -> x.named(4, k, false, true));
            dueRefusedInAllModes("named(4, " + k + "), not, caseless", x -> x.named(4, k, true, true));
        }
    }

    // ---- promise 6

    private static void dueClose(int mode, int came, int[] members, int... ends) {
        CharacterSets x = new CharacterSets(mode);
        for (int c : members) {
            x.range(3, c, c);
        }
        String call = "mode " + mode + ", close of " + members[0];
        due(call, x.close(3), came);
        dueRanges(call, x, 3, ends);
        due(call + " again", x.close(3), 0);
        dueRanges(call + " again", x, 3, ends);
    }

    private static int[] of(int... members) {
        return members;
    }

    private static void closing() {
        for (int mode = 0; mode < 4; mode++) {
            test("6: All that is of one CASE with a member (an empty SET, a full SET, the ends)");
            CharacterSets x = new CharacterSets(mode);
            due("an empty SET", x.close(0), 0);
            dueRanges("an empty SET", x, 0);
            x.range(1, 0, last(mode));
            due("a full SET", x.close(1), 0);
            dueRanges("a full SET", x, 1, 0, last(mode));
            dueClose(mode, 0, of(0), 0, 0);
            dueClose(mode, 0, of(last(mode)), last(mode), last(mode));
        }
        test("6: All that is of one CASE with a member comes, too: how many came (of three, one, two)");
        int[][] threes = {{0x53, 0x73, 0x17F}, {0x4B, 0x6B, 0x212A}, {0xC5, 0xE5, 0x212B},
            {0xB5, 0x39C, 0x3BC}};
        for (int[] t : threes) {
            for (int mode = 1; mode < 4; mode += 2) {
                int[] closed = {t[0], t[0], t[1], t[1], t[2], t[2]};
                for (int c : t) {
                    dueClose(mode, 2, of(c), closed);
                }
                dueClose(mode, 1, of(t[0], t[1]), closed);
                dueClose(mode, 1, of(t[0], t[2]), closed);
                dueClose(mode, 1, of(t[1], t[2]), closed);
                dueClose(mode, 0, t, closed);
            }
        }
        for (int c : of(0x3A3, 0x3C2, 0x3C3)) {
            dueClose(1, 2, of(c), 0x3A3, 0x3A3, 0x3C2, 0x3C3);
        }
        test("6: how many came (not what was there)");
        CharacterSets y = new CharacterSets(1);
        y.range(0, 0x41, 0x5A);
        y.range(0, 0x61, 0x62);
        due("A-Z a-b", y.close(0), 26);
        dueRanges("A-Z a-b", y, 0, 0x41, 0x5A, 0x61, 0x7A, 0x17F, 0x17F, 0x212A, 0x212A);
        y.range(1, 0x40, 0x5B);
        due("A-Z and their neighbours", y.close(1), 28);
        dueRanges("A-Z and their neighbours", y, 1, 0x40, 0x5B, 0x61, 0x7A, 0x17F, 0x17F, 0x212A, 0x212A);
        y.property(2, 6, false, false);
        due("close of Lu", y.close(2), 193);
        due("Lu and what came", y.size(2), 386);
        y.property(3, 4, false, false);
        due("close of Ll", y.close(3), 192);
        due("Ll and what came", y.size(3), 389);
    }

    private static void closingInModes() {
        test("Terms: With neither UTF nor UCP only A-Z and a-z have CASES");
        dueClose(0, 1, of(0x41), 0x41, 0x41, 0x61, 0x61);
        dueClose(0, 1, of(0x7A), 0x5A, 0x5A, 0x7A, 0x7A);
        dueClose(0, 1, of(0x4B), 0x4B, 0x4B, 0x6B, 0x6B);
        dueClose(0, 1, of(0x73), 0x53, 0x53, 0x73, 0x73);
        for (int c = 0; c <= FF; c++) {
            if ((c < 0x41 || c > 0x5A) && (c < 0x61 || c > 0x7A)) {
                dueClose(0, 0, of(c), c, c);
            }
        }
        test("Terms: without UTF only characters to FF are there: what else is left out (close)");
        for (int mode = 0; mode < 4; mode += 2) {
            dueClose(mode, 1, of(0x4B), 0x4B, 0x4B, 0x6B, 0x6B);
            dueClose(mode, 0, of(0xB5), 0xB5, 0xB5);
            dueClose(mode, 0, of(0xFF), 0xFF, 0xFF);
            dueClose(mode, 0, of(0xDF), 0xDF, 0xDF);
        }
        dueClose(2, 1, of(0xC0), 0xC0, 0xC0, 0xE0, 0xE0);
        dueClose(2, 1, of(0xE5), 0xC5, 0xC5, 0xE5, 0xE5);
        dueClose(2, 1, of(0xDE), 0xDE, 0xDE, 0xFE, 0xFE);
        CharacterSets x = new CharacterSets(2);
        x.property(0, 45, false, false);
        due("close of Lu and Ll with UCP alone", x.close(0), 0);
    }

    // ---- promise 7

    private static void inverting() {
        for (int mode = 0; mode < 4; mode++) {
            int last = last(mode);
            test("7: all characters that there are and are not in it (an empty SET, a full SET)");
            CharacterSets x = filled(mode);
            due("of nothing", x.invert(0), 1);
            dueRanges("of nothing", x, 0, 0, last);
            due("of all", x.invert(0), 0);
            dueRanges("of all", x, 0);
            due("what was all meets all", x.meets(0, 1), 0);
            due("of nothing again", x.invert(0), 1);
            test("7: all characters that there are and are not in it (the first, the last, both)");
            due("of the first", x.invert(2), 1);
            dueRanges("of the first", x, 2, 1, last);
            due("of all but the first", x.invert(2), 1);
            dueRanges("of all but the first", x, 2, 0, 0);
            due("of the last", x.invert(3), 1);
            dueRanges("of the last", x, 3, 0, last - 1);
            due("of all but the last", x.invert(3), 1);
            dueRanges("of all but the last", x, 3, last, last);
            x.join(3, 2);
            due("of the first and the last", x.invert(3), 1);
            dueRanges("of the first and the last", x, 3, 1, last - 1);
            due("of all but the first and the last", x.invert(3), 2);
            dueRanges("of all but the first and the last", x, 3, 0, 0, last, last);
            test("7: its ranges (one missing, inside)");
            due("of all but 5F and the last", x.invert(7), 2);
            dueRanges("of all but 5F and the last", x, 7, 0x5F, 0x5F, last, last);
            due("of ranges inside", x.invert(5), 3);
            dueRanges("of ranges inside", x, 5, 0, 0xF, 0x1A, 0x1A, 0x2A, last);
        }
    }

    // ---- promise 8

    private static void joining() {
        for (int mode = 0; mode < 4; mode++) {
            int last = last(mode);
            test("8: All members of SET t come to SET s (an empty SET)");
            CharacterSets x = filled(mode);
            due("nothing to what is there", x.join(5, 0), 2);
            dueUnchanged("join of nothing", x, mode, -1);
            x.clear(1);
            due("nothing to nothing", x.join(0, 1), 0);
            dueRanges("nothing to nothing", x, 0);
            due("what is there to nothing", x.join(0, 5), 2);
            dueRanges("what is there to nothing", x, 0, 0x10, 0x19, 0x1B, 0x29);
            dueRanges("SET t stays", x, 5, 0x10, 0x19, 0x1B, 0x29);
            test("8: All members of SET t come to SET s (a full SET)");
            x = filled(mode);
            due("to all", x.join(1, 5), 1);
            dueUnchanged("join to all", x, mode, -1);
            due("all to what is there", x.join(5, 1), 1);
            dueRanges("all to what is there", x, 5, 0, last);
            test("8: All members of SET t come to SET s (s is t)");
            x = filled(mode);
            int[] ranges = {0, 1, 1, 1, 2, 2, 2, 2};
            for (int s = 0; s < 8; s++) {
                due("join(" + s + ", " + s + ")", x.join(s, s), ranges[s]);
            }
            dueUnchanged("join with itself", x, mode, -1);
            test("8: its ranges (one behind the other, the first and the last)");
            due("the first and the last", x.join(2, 3), 2);
            dueRanges("the first and the last", x, 2, 0, 0, last, last);
            due("all but 5F", x.join(7, 3), 2);
            dueRanges("all but 5F", x, 7, 0, 0x5E, 0x60, last);
            x.range(0, 0x5F, 0x5F);
            due("5F fills the gap", x.join(7, 0), 1);
            dueRanges("5F fills the gap", x, 7, 0, last);
            x.clear(0);
            x.range(0, 0xF, 0xF);
            x.range(0, 0x1A, 0x1A);
            x.range(0, 0x2A, 0x2A);
            due("right before, between, right behind", x.join(0, 5), 1);
            dueRanges("right before, between, right behind", x, 0, 0xF, 0x2A);
            dueRanges("SET t stays", x, 5, 0x10, 0x19, 0x1B, 0x29);
        }
    }

    // ---- promises 9 and 10

    private static void dueBoth(String call, CharacterSets x, int s, int t, int meets, int same) {
        due(call + ": meets(" + s + ", " + t + ")", x.meets(s, t), meets);
        due(call + ": meets(" + t + ", " + s + ")", x.meets(t, s), meets);
        due(call + ": same(" + s + ", " + t + ")", x.same(s, t), same);
        due(call + ": same(" + t + ", " + s + ")", x.same(t, s), same);
    }

    private static void meeting() {
        for (int mode = 0; mode < 4; mode++) {
            int last = last(mode);
            test("9: 1 if a character is in both, else 0 (an empty SET)");
            CharacterSets x = filled(mode);
            due("an empty SET with itself", x.meets(0, 0), 0);
            for (int s = 1; s < 8; s++) {
                dueBoth("an empty SET", x, 0, s, 0, 0);
            }
            test("9: 1 if a character is in both, else 0 (a full SET, itself)");
            for (int s = 1; s < 8; s++) {
                due("a full SET with " + s, x.meets(1, s), 1);
                due("a full SET with " + s, x.meets(s, 1), 1);
                due(s + " with itself", x.meets(s, s), 1);
            }
            test("9: 1 if a character is in both, else 0 (the first, the last, one alone)");
            dueBoth("the first and the last", x, 2, 3, 0, 0);
            dueBoth("the first", x, 2, 7, 1, 0);
            dueBoth("all but the last, and the last", x, 7, 3, 0, 0);
            x.range(7, last, last);
            dueBoth("the last", x, 7, 3, 1, 0);
            x.invert(7);
            dueBoth("5F alone is left", x, 7, 3, 0, 0);
            dueBoth("5F alone is left", x, 7, 1, 1, 0);
            x.clear(0);
            x.range(0, 0x1A, 0x1A);
            x.range(0, 0xF, 0xF);
            x.range(0, 0x2A, 0x2A);
            dueBoth("all neighbours", x, 0, 5, 0, 0);
            x.range(0, 0x29, 0x29);
            dueBoth("the last of the last range", x, 0, 5, 1, 0);
            x.clear(0);
            x.range(0, 0x10, 0x10);
            dueBoth("the first of the first range", x, 0, 5, 1, 0);
            x.clear(0);
            x.range(0, 0x19, 0x1A);
            dueBoth("the last of the first range", x, 0, 5, 1, 0);
            x.clear(0);
            x.range(0, 0x1A, 0x1B);
            dueBoth("the first of the last range", x, 0, 5, 1, 0);
        }
    }

    private static void comparing() {
        for (int mode = 0; mode < 4; mode++) {
            int last = last(mode);
            test("10: 1 if both have the same members, else 0 (empty SETS, itself)");
            CharacterSets x = filled(mode);
            for (int s = 0; s < 8; s++) {
                due(s + " with itself", x.same(s, s), 1);
                for (int t = 0; t < s; t++) {
                    due(s + " with " + t, x.same(s, t), 0);
                    due(t + " with " + s, x.same(t, s), 0);
                }
            }
            x.clear(2);
            dueBoth("empty SETS", x, 0, 2, 0, 1);
            test("10: 1 if both have the same members, else 0 (full SETS)");
            x.invert(0);
            dueBoth("full SETS", x, 0, 1, 1, 1);
            test("10: 1 if both have the same members, else 0 (but for the first, the last, one)");
            x.range(2, 1, last);
            dueBoth("but for the first", x, 1, 2, 1, 0);
            x.range(2, 0, 0);
            dueBoth("put together", x, 1, 2, 1, 1);
            x.clear(2);
            x.range(2, 0, last - 1);
            dueBoth("but for the last", x, 1, 2, 1, 0);
            dueBoth("but for 5F", x, 7, 2, 1, 0);
            x.range(7, 0x5F, 0x5F);
            dueBoth("5F, too", x, 7, 2, 1, 1);
            x.clear(2);
            x.range(2, 0x10, 0x29);
            dueBoth("as one range", x, 5, 2, 1, 0);
            x.clear(2);
            x.range(2, 0x1B, 0x29);
            dueBoth("the first range missing", x, 5, 2, 1, 0);
            x.range(2, 0x10, 0x18);
            dueBoth("as many ranges", x, 5, 2, 1, 0);
            x.range(2, 0x19, 0x19);
            dueBoth("all members", x, 5, 2, 1, 1);
        }
    }

    // ---- promises 11 to 13

    private static void having() {
        for (int mode = 0; mode < 4; mode++) {
            int last = last(mode);
            CharacterSets x = filled(mode);
            test("11: 1 if c is in SET s, else 0 (any int)");
            int[] none = {-1, -2, MIN, MIN + 1, last + 1, last + 2, LAST + 1, LAST + 2, MAX, MAX - 1};
            for (int s = 0; s < 8; s++) {
                for (int c : none) {
                    due("has(" + s + ", " + c + ")", x.has(s, c), 0);
                }
            }
            test("11: 1 if c is in SET s, else 0 (the ends)");
            int[][] asked = {
                {0, 0, 0}, {0, last, 0}, {1, 0, 1}, {1, last, 1}, {2, 0, 1}, {2, 1, 0}, {2, last, 0},
                {3, last, 1}, {3, last - 1, 0}, {3, 0, 0}, {4, 0x40, 0}, {4, 0x41, 1}, {4, 0x5A, 1},
                {4, 0x5B, 0}, {4, 0x6A, 0}, {4, 0x6B, 1}, {4, 0x6C, 0}, {7, 0x5E, 1}, {7, 0x5F, 0},
                {7, 0x60, 1}, {7, last - 1, 1}, {7, last, 0}};
            for (int[] row : asked) {
                due("has(" + row[0] + ", " + row[1] + ")", x.has(row[0], row[1]), row[2]);
            }
        }
    }

    private static void counting() {
        test("12: How many members it has (none, one, all, all but one).");
        for (int mode = 0; mode < 4; mode++) {
            int last = last(mode);
            int[] sizes = {0, last + 1, 1, 1, 27, 25, 2, last - 1};
            CharacterSets x = filled(mode);
            for (int s = 0; s < 8; s++) {
                due("size(" + s + ")", x.size(s), sizes[s]);
            }
            x.range(2, 0, 0);
            due("again", x.size(2), 1);
            x.range(2, 1, 1);
            due("one more", x.size(2), 2);
            x.invert(2);
            due("all but two", x.size(2), last - 1);
        }
    }

    private static void finding() {
        for (int mode = 0; mode < 4; mode++) {
            int last = last(mode);
            CharacterSets x = filled(mode);
            test("13: -1 if there is none.");
            int[] all = {MIN, -1, 0, 1, last, last + 1, LAST + 1, MAX};
            for (int c : all) {
                due("least(0, " + c + ")", x.least(0, c), -1);
            }
            int[][] behind = {{1, last + 1}, {1, MAX}, {2, 1}, {2, last}, {3, last + 1}, {4, 0x6C},
                {5, 0x2A}, {6, 0xE6}, {7, last}, {7, MAX}};
            for (int[] row : behind) {
                due("least(" + row[0] + ", " + row[1] + ")", x.least(row[0], row[1]), -1);
            }
            test("13: The least member that is c or more");
            int[][] asked = {
                {1, 0, 0}, {1, 1, 1}, {1, last, last}, {2, 0, 0}, {3, 0, last}, {3, last - 1, last},
                {3, last, last}, {4, 0, 0x41}, {4, 0x40, 0x41}, {4, 0x41, 0x41}, {4, 0x5A, 0x5A},
                {4, 0x5B, 0x6B}, {4, 0x6B, 0x6B}, {5, 0x1A, 0x1B}, {7, 0x5F, 0x60}, {7, last - 1, last - 1}};
            for (int[] row : asked) {
                due("least(" + row[0] + ", " + row[1] + ")", x.least(row[0], row[1]), row[2]);
            }
            test("13: The least member that is c or more (c below the first character)");
            int[] least = {-1, 0, 0, last, 0x41, 0x10, 0xB5, 0};
            for (int s = 0; s < 8; s++) {
                due("least(" + s + ", -1)", x.least(s, -1), least[s]);
                due("least(" + s + ", -2)", x.least(s, -2), least[s]);
                due("least(" + s + ", MIN)", x.least(s, MIN), least[s]);
            }
        }
    }

    // ---- promise 14

    private static void bounds() {
        for (int mode = 0; mode < 4; mode++) {
            int last = last(mode);
            test("14: The least (end false) or greatest member of range k, from 0 upwards");
            CharacterSets x = filled(mode);
            int[][] sets = filling(mode);
            for (int s = 0; s < 8; s++) {
                for (int i = 0; i < sets[s].length; i++) {
                    due("bound(" + s + ", " + i / 2 + ")", x.bound(s, i / 2, i % 2 == 1), sets[s][i]);
                }
            }
            test("14: range k, from 0 upwards (when a range comes before, when two grow together)");
            x.range(5, 0, 0);
            due("the new range 0", x.bound(5, 0, true), 0);
            due("range 0 is now 1", x.bound(5, 1, false), 0x10);
            due("range 1 is now 2", x.bound(5, 2, false), 0x1B);
            due("there is no range 3", x.bound(5, 3, false), REFUSED);
            x.range(5, 0x1A, 0x1A);
            due("range 1 goes on", x.bound(5, 1, true), 0x29);
            due("there is no range 2", x.bound(5, 2, true), REFUSED);
            x.range(5, last, last);
            due("the last is range 2", x.bound(5, 2, false), last);
            due("the last is range 2", x.bound(5, 2, true), last);
        }
    }

    private static void boundsThatAreRefused() {
        test("14: REFUSED: there is none.");
        for (int mode = 0; mode < 4; mode++) {
            int[][] sets = filling(mode);
            for (int s = 0; s < 8; s++) {
                int set = s;
                int[] none = {-1, sets[s].length / 2, 3, 1 << 30, 3 << 30, MIN, MIN + 1, MAX};
                for (int k : none) {
                    dueRefused("bound(" + s + ", " + k + ")", mode, x -> x.bound(set, k, false));
                    dueRefused("bound(" + s + ", " + k + "), end", mode, x -> x.bound(set, k, true));
                }
            }
            CharacterSets x = filled(mode);
            x.clear(1);
            due("of a SET that was cleared", x.bound(1, 0, false), REFUSED);
            x.range(1, 0, last(mode));
            x.invert(1);
            due("of a SET that was turned to nothing", x.bound(1, 0, true), REFUSED);
        }
    }

    // ---- promise 15

    private static void aboutInAnyMode() {
        for (int mode = 0; mode < 4; mode++) {
            CharacterSets x = new CharacterSets(mode);
            test("15: Of a character (0 .. 10FFFF, in any mode): what 0 its CATEGORY");
            for (int k = 0; k <= 24; k++) {
                due("about(" + OF_CATEGORY[k] + ", 0)", x.about(OF_CATEGORY[k], 0), k);
            }
            due("the first", x.about(0, 0), 1);
            due("FF", x.about(FF, 0), 4);
            due("100", x.about(0x100, 0), 6);
            due("the last", x.about(LAST, 0), 0);
            test("15: Of a character (0 .. 10FFFF, in any mode): 1 its SCRIPT");
            for (int k = 0; k <= 11; k++) {
                due("about(" + OF_SCRIPT[k] + ", 1)", x.about(OF_SCRIPT[k], 1), k);
            }
            due("the first", x.about(0, 1), 1);
            due("FF", x.about(FF, 1), 2);
            due("100", x.about(0x100, 1), 2);
            due("the last", x.about(LAST, 1), 0);
        }
    }

    private static void dueAbout(int mode, int c, int upper, int lower, int next) {
        CharacterSets x = new CharacterSets(mode);
        due("mode " + mode + ", UPPER of " + c, x.about(c, 2), upper);
        due("mode " + mode + ", LOWER of " + c, x.about(c, 3), lower);
        due("mode " + mode + ", next of " + c, x.about(c, 4), next);
    }

    private static void aboutOfOneThatThereIs() {
        test("15: Of one that there is (the first, the last)");
        for (int mode = 0; mode < 4; mode++) {
            dueAbout(mode, 0, 0, 0, 0);
            dueAbout(mode, last(mode), mode % 2 == 1 ? LAST : FF, mode % 2 == 1 ? LAST : FF,
                    mode % 2 == 1 ? LAST : FF);
        }
        for (int mode = 1; mode < 4; mode += 2) {
            test("15: 4 the next greater one of its CASE that is there");
            dueAbout(mode, 0x41, 0x41, 0x61, 0x61);
            dueAbout(mode, 0x53, 0x53, 0x73, 0x73);
            dueAbout(mode, 0x73, 0x53, 0x73, 0x17F);
            dueAbout(mode, 0x4B, 0x4B, 0x6B, 0x6B);
            dueAbout(mode, 0x6B, 0x4B, 0x6B, 0x212A);
            dueAbout(mode, 0xC5, 0xC5, 0xE5, 0xE5);
            dueAbout(mode, 0xE5, 0xC5, 0xE5, 0x212B);
            dueAbout(mode, 0xB5, 0x39C, 0xB5, 0x39C);
            dueAbout(mode, 0x39C, 0x39C, 0x3BC, 0x3BC);
            dueAbout(mode, 0x3A3, 0x3A3, 0x3C3, 0x3C2);
            dueAbout(mode, 0x3C2, 0x3A3, 0x3C2, 0x3C3);
            dueAbout(mode, 0xFF, 0x178, 0xFF, 0x178);
            test("15: or the least one if there is none");
            dueAbout(mode, 0x61, 0x41, 0x61, 0x41);
            dueAbout(mode, 0x17F, 0x53, 0x17F, 0x53);
            dueAbout(mode, 0x212A, 0x212A, 0x6B, 0x4B);
            dueAbout(mode, 0x212B, 0x212B, 0xE5, 0xC5);
            dueAbout(mode, 0x3BC, 0x39C, 0x3BC, 0xB5);
            dueAbout(mode, 0x3C3, 0x3A3, 0x3C3, 0x3A3);
            dueAbout(mode, 0x178, 0x178, 0xFF, 0xFF);
            dueAbout(mode, 0x17E, 0x17D, 0x17E, 0x17D);
            test("15: (itself, if it is alone)");
            int[] alone = {0x30, 0xAA, 0xDF, 0x130, 0x131, 0x138, 0x149, 0x3A2, 0x180, 0x2160, 0xD800};
            for (int c : alone) {
                dueAbout(mode, c, c, c, c);
            }
        }
        test("15: that is there (without UTF the others of its CASE may not be)");
        for (int mode = 0; mode < 4; mode += 2) {
            dueAbout(mode, 0x73, 0x53, 0x73, 0x53);
            dueAbout(mode, 0x53, 0x53, 0x73, 0x73);
            dueAbout(mode, 0x6B, 0x4B, 0x6B, 0x4B);
            dueAbout(mode, 0xB5, 0xB5, 0xB5, 0xB5);
            dueAbout(mode, 0xFF, 0xFF, 0xFF, 0xFF);
        }
        dueAbout(2, 0xE5, 0xC5, 0xE5, 0xC5);
        dueAbout(2, 0xC5, 0xC5, 0xE5, 0xE5);
        test("Terms: With neither UTF nor UCP only A-Z and a-z have CASES (about)");
        for (int c = 0x7B; c <= FF; c++) {
            dueAbout(0, c, c, c, c);
        }
        int[] beside = {0x40, 0x5B, 0x60};
        for (int c : beside) {
            dueAbout(0, c, c, c, c);
        }
    }

    private static void aboutThatIsRefused() {
        test("15: Else REFUSED (no character)");
        int[] none = {-1, LAST + 1, LAST + 2, MIN, MAX};
        for (int c : none) {
            for (int what = 0; what <= 4; what++) {
                int asked = what;
                dueRefusedInAllModes("about(" + c + ", " + what + ")", x -> x.about(c, asked));
            }
        }
        test("15: Else REFUSED (no such what)");
        int[] nothing = {-1, 5, 6, 256, MIN, MAX};
        int[] characters = {0, 0x41, FF, LAST, -1, LAST + 1};
        for (int what : nothing) {
            for (int c : characters) {
                dueRefusedInAllModes("about(" + c + ", " + what + ")", x -> x.about(c, what));
            }
        }
        test("15: Of one that there is: 2, 3, 4. Else REFUSED (without UTF above FF)");
        int[] above = {0x100, 0x178, 0x17F, 0x39C, 0x212A, 0xD800, LAST};
        for (int c : above) {
            for (int what = 2; what <= 4; what++) {
                int asked = what;
                dueRefused("about(" + c + ", " + what + ")", 0, x -> x.about(c, asked));
                dueRefused("about(" + c + ", " + what + ")", 2, x -> x.about(c, asked));
            }
        }
    }

    // ---- the sentences that hold for all calls

    private static void setsThatThereAreNot() {
        for (int none : NO_SETS) {
            test("2: Calls with a SET that there is not are REFUSED and change nothing.");
            dueRefusedInAllModes("clear(" + none + ")", x -> x.clear(none));
            test("3: Calls with a SET that there is not are REFUSED and change nothing.");
            dueRefusedInAllModes("range(" + none + ")", x -> x.range(none, 0x41, 0x42));
            test("4: Calls with a SET that there is not are REFUSED and change nothing.");
            dueRefusedInAllModes("property(" + none + ")", x -> x.property(none, 44, false, false));
            dueRefusedInAllModes("property(" + none + "), not", x -> x.property(none, 44, true, true));
            test("5: Calls with a SET that there is not are REFUSED and change nothing.");
            dueRefusedInAllModes("named(" + none + ")", x -> x.named(none, 18, false, false));
            dueRefusedInAllModes("named(" + none + "), not", x -> x.named(none, 18, true, true));
            test("6: Calls with a SET that there is not are REFUSED and change nothing.");
            dueRefusedInAllModes("close(" + none + ")", x -> x.close(none));
            test("7: Calls with a SET that there is not are REFUSED and change nothing.");
            dueRefusedInAllModes("invert(" + none + ")", x -> x.invert(none));
            test("11: Calls with a SET that there is not are REFUSED and change nothing.");
            dueRefusedInAllModes("has(" + none + ")", x -> x.has(none, 0x41));
            dueRefusedInAllModes("has(" + none + ", -1)", x -> x.has(none, -1));
            test("12: Calls with a SET that there is not are REFUSED and change nothing.");
            dueRefusedInAllModes("size(" + none + ")", x -> x.size(none));
            test("13: Calls with a SET that there is not are REFUSED and change nothing.");
            dueRefusedInAllModes("least(" + none + ")", x -> x.least(none, 0));
            dueRefusedInAllModes("least(" + none + ", MAX)", x -> x.least(none, MAX));
            test("14: Calls with a SET that there is not are REFUSED and change nothing.");
            dueRefusedInAllModes("bound(" + none + ")", x -> x.bound(none, 0, false));
            dueRefusedInAllModes("bound(" + none + "), end", x -> x.bound(none, 0, true));
            for (int s = 0; s < 8; s++) {
                int set = s;
                test("8: Calls with a SET that there is not are REFUSED and change nothing.");
                dueRefusedInAllModes("join(" + none + ", " + s + ")", x -> x.join(none, set));
                dueRefusedInAllModes("join(" + s + ", " + none + ")", x -> x.join(set, none));
                test("9: Calls with a SET that there is not are REFUSED and change nothing.");
                dueRefusedInAllModes("meets(" + none + ", " + s + ")", x -> x.meets(none, set));
                dueRefusedInAllModes("meets(" + s + ", " + none + ")", x -> x.meets(set, none));
                test("10: Calls with a SET that there is not are REFUSED and change nothing.");
                dueRefusedInAllModes("same(" + none + ", " + s + ")", x -> x.same(none, set));
                dueRefusedInAllModes("same(" + s + ", " + none + ")", x -> x.same(set, none));
            }
            test("8, 9, 10: Calls with two SETS that there are not are REFUSED and change nothing.");
            dueRefusedInAllModes("join(" + none + ", " + none + ")", x -> x.join(none, none));
            dueRefusedInAllModes("meets(" + none + ", " + none + ")", x -> x.meets(none, none));
            dueRefusedInAllModes("same(" + none + ", " + none + ")", x -> x.same(none, none));
        }
    }

    /** The call changes SET s at most. */
    private static void dueChangesOnly(String name, int s, Call call) {
        for (int mode = 0; mode < 4; mode++) {
            CharacterSets x = filled(mode);
            call.on(x);
            dueUnchanged("mode " + mode + ", " + name, x, mode, s);
        }
    }

    private static void setsThatDoNotChange() {
        test("Terms: eight SETS, numbered 0 to 7. They do not change but by the calls that say so.");
        for (int s = 0; s < 8; s++) {
            int set = s;
            dueChangesOnly("clear(" + s + ")", s, x -> x.clear(set));
            dueChangesOnly("range(" + s + ")", s, x -> x.range(set, 0x30, 0xF0));
            dueChangesOnly("property(" + s + ")", s, x -> x.property(set, 45, false, false));
            dueChangesOnly("property(" + s + "), not", s, x -> x.property(set, 45, true, true));
            dueChangesOnly("named(" + s + ")", s, x -> x.named(set, 16, false, false));
            dueChangesOnly("named(" + s + "), not", s, x -> x.named(set, 16, true, true));
            dueChangesOnly("close(" + s + ")", s, x -> x.close(set));
            dueChangesOnly("invert(" + s + ")", s, x -> x.invert(set));
            dueChangesOnly("has(" + s + ")", -1, x -> x.has(set, 0x41));
            dueChangesOnly("size(" + s + ")", -1, x -> x.size(set));
            dueChangesOnly("least(" + s + ")", -1, x -> x.least(set, 1));
            dueChangesOnly("bound(" + s + ")", -1, x -> x.bound(set, 0, true));
            for (int t = 0; t < 8; t++) {
                int second = t;
                dueChangesOnly("join(" + s + ", " + t + ")", s, x -> x.join(set, second));
                dueChangesOnly("meets(" + s + ", " + t + ")", -1, x -> x.meets(set, second));
                dueChangesOnly("same(" + s + ", " + t + ")", -1, x -> x.same(set, second));
            }
        }
        for (int what = 0; what <= 4; what++) {
            int asked = what;
            dueChangesOnly("about(53, " + what + ")", -1, x -> x.about(0x53, asked));
        }
        test("Terms: eight SETS (of each object its own)");
        CharacterSets x = new CharacterSets(1);
        CharacterSets y = new CharacterSets(1);
        x.range(0, 1, 5);
        dueRanges("the other object", y, 0);
        y.invert(1);
        dueRanges("the first object", x, 1);
    }

    private static void lastCalls() {
        test("What it is: at most 512 calls (as many ranges as they can bring, and the 512th call)");
        CharacterSets x = new CharacterSets(3);
        for (int i = 0; i < 506; i++) {
            due("range " + i, x.range(0, 0xF9000 + 2 * i, 0xF9000 + 2 * i), i + 1);
        }
        due("join", x.join(1, 0), 506);
        due("Lu", x.property(1, 6, false, false), 506 + 69);
        due("Po", x.property(1, 16, false, false), 506 + 69 + 12);
        due("invert", x.invert(1), 506 + 69 + 12 + 1);
        due("the last range but one", x.bound(1, 506 + 69 + 11, true), 0xF9000 + 2 * 505 - 1);
        due("the 512th call", x.size(1), 0x110000 - 506 - 193 - 30);
        test("What it is: at most 512 calls (an alternating row, filled up)");
        CharacterSets y = new CharacterSets(1);
        for (int i = 0; i < 509; i++) {
            due("range " + i, y.range(7, LAST - 2 * i, LAST - 2 * i), i + 1);
        }
        due("invert", y.invert(7), 509);
        due("close", y.close(7), 0);
        due("the 512th call fills it", y.range(7, 0, LAST), 1);
    }
}
