/** The promises of the document one by one: ordinary inputs, the edges it names, wrong inputs. */
public final class PromiseTest {
    private static final int REFUSED = -2;
    private static final int LAST = 0x10FFFF;
    private static final int[] NO_SETS = {-1, 8, 9, Integer.MIN_VALUE, Integer.MAX_VALUE};

    private static int wrong = 0;

    private static void due(String what, int got, int want) {
        if (got != want) {
            wrong++;
            System.out.println(what + ": answered " + got + ", due is " + want);
        }
    }

    /** The SET's ranges are exactly these: first and last of each. */
    private static void dueRanges(String what, CharacterSets x, int s, int... ends) {
        int members = 0;
        for (int i = 0; i < ends.length; i += 2) {
            due(what + ", low of range " + i / 2, x.bound(s, i / 2, false), ends[i]);
            due(what + ", high of range " + i / 2, x.bound(s, i / 2, true), ends[i + 1]);
            members += ends[i + 1] - ends[i] + 1;
        }
        due(what + ", no more ranges", x.bound(s, ends.length / 2, false), REFUSED);
        due(what + ", size", x.size(s), members);
    }

    public static void main(String[] args) {
        promise1NewObject();
        promise1Modes();
        promise2Clear();
        promise3Range();
        promise3RangeRefused();
        promise4Property();
        promise4PropertyNumbers();
        promise4PropertyRefused();
        promise5NamedWithoutUcp();
        promise5NamedWithUcp();
        promise5NamedFlags();
        promise6Close();
        promise6CloseInModes();
        promise7Invert();
        promise8Join();
        promise9Meets();
        promise10Same();
        promise11Has();
        promise12Size();
        promise13Least();
        promise14Bound();
        promise15Categories();
        promise15Scripts();
        promise15Cases();
        promise15CasesInModes();
        promise15Refused();
        setsThatThereAreNot();
        due("REFUSED", CharacterSets.REFUSED, REFUSED);
        System.out.println(wrong == 0 ? "all answers are as due" : wrong + " answers are not as due");
        if (wrong != 0) {
            System.exit(1);
        }
    }

    private static void promise1NewObject() {
        for (int mode = 0; mode < 4; mode++) {
            CharacterSets x = new CharacterSets(mode);
            for (int s = 0; s < 8; s++) {
                dueRanges("1: new, mode " + mode + ", SET " + s, x, s);
            }
        }
        CharacterSets x = new CharacterSets(1);
        CharacterSets y = new CharacterSets(1);
        x.range(0, 1, 5);
        due("1: objects have SETS of their own", y.size(0), 0);
    }

    private static void promise1Modes() {
        int[] modes = {0, 1, 2, 3, 4, 5, 6, 7, -4, -3, -2, -1, Integer.MIN_VALUE, Integer.MAX_VALUE};
        for (int mode : modes) {
            CharacterSets x = new CharacterSets(mode);
            boolean utf = (mode & 1) != 0;
            boolean ucp = (mode & 2) != 0;
            x.property(0, 44, false, false);
            due("1: UTF in mode " + mode, x.size(0), utf ? LAST + 1 : 256);
            due("1: UCP in mode " + mode, x.named(1, 13, false, false), 2);
            due("1: UCP in mode " + mode, x.bound(1, 1, true), ucp ? 0x9F : 0x7F);
        }
    }

    private static void promise2Clear() {
        CharacterSets x = new CharacterSets(1);
        x.range(2, 5, 9);
        x.range(3, 7, 8);
        due("2: clear", x.clear(2), 0);
        dueRanges("2: cleared", x, 2);
        dueRanges("2: the other stays", x, 3, 7, 8);
        due("2: clear of an empty SET", x.clear(2), 0);
        due("2: new members after clear", x.range(2, 1, 1), 1);
        dueRanges("2: after clear", x, 2, 1, 1);
    }

    private static void promise3Range() {
        CharacterSets x = new CharacterSets(1);
        due("3: first", x.range(0, 10, 19), 1);
        due("3: again", x.range(0, 10, 19), 1);
        due("3: inside", x.range(0, 12, 13), 1);
        due("3: apart, one missing", x.range(0, 21, 29), 2);
        dueRanges("3: apart", x, 0, 10, 19, 21, 29);
        due("3: the one missing", x.range(0, 20, 20), 1);
        dueRanges("3: grown together", x, 0, 10, 29);
        due("3: right before", x.range(0, 9, 9), 1);
        due("3: right behind", x.range(0, 30, 30), 1);
        dueRanges("3: at both ends", x, 0, 9, 30);
        due("3: in front", x.range(0, 0, 3), 2);
        due("3: at the end", x.range(0, LAST, LAST), 3);
        due("3: over the low end", x.range(0, 7, 12), 3);
        due("3: over the high end", x.range(0, 25, 40), 3);
        dueRanges("3: over the ends", x, 0, 0, 3, 7, 40, LAST, LAST);
        due("3: from one into the next", x.range(0, 2, 8), 2);
        due("3: over all", x.range(0, 0, LAST), 1);
        dueRanges("3: all", x, 0, 0, LAST);
        CharacterSets y = new CharacterSets(0);
        due("3: without UTF to FF", y.range(7, 0, 0xFF), 1);
        dueRanges("3: without UTF", y, 7, 0, 0xFF);
    }

    private static void promise3RangeRefused() {
        CharacterSets x = new CharacterSets(1);
        x.range(0, 10, 19);
        due("3: low above high", x.range(0, 6, 5), REFUSED);
        due("3: below 0", x.range(0, -1, 5), REFUSED);
        due("3: above 10FFFF", x.range(0, 5, LAST + 1), REFUSED);
        due("3: low far above", x.range(0, LAST + 1, LAST + 1), REFUSED);
        due("3: greatest int", x.range(0, 0, Integer.MAX_VALUE), REFUSED);
        due("3: least int", x.range(0, Integer.MIN_VALUE, 5), REFUSED);
        dueRanges("3: refused changes nothing", x, 0, 10, 19);
        for (int mode = 0; mode <= 2; mode += 2) {
            CharacterSets y = new CharacterSets(mode);
            due("3: 100 without UTF", y.range(0, 0x41, 0x100), REFUSED);
            due("3: from 100 without UTF", y.range(0, 0x100, 0x100), REFUSED);
            dueRanges("3: refused without UTF", y, 0);
        }
    }

    private static void promise4Property() {
        CharacterSets x = new CharacterSets(1);
        due("4: Nd", x.property(0, 8, false, false), 2);
        dueRanges("4: Nd", x, 0, 0x30, 0x39, 0x660, 0x669);
        due("4: Zs comes to it", x.property(0, 24, false, false), 8);
        dueRanges("4: Nd and Zs", x, 0, 0x20, 0x20, 0x30, 0x39, 0xA0, 0xA0, 0x660, 0x669,
                0x2000, 0x200A, 0x202F, 0x202F, 0x205F, 0x205F, 0x3000, 0x3000);
        due("4: not Co", x.property(1, 3, true, false), 2);
        dueRanges("4: not Co", x, 1, 0, 0xDFFF, 0xF900, LAST);
        due("4: Arabic", x.property(2, 38, false, false), 2);
        dueRanges("4: Arabic", x, 2, 0x620, 0x63F, 0x641, 0x64A);
        due("4: not all", x.property(3, 44, true, false), 0);
        dueRanges("4: not all", x, 3);
        due("4: Lu, caseless", x.property(4, 6, false, true), 11);
        due("4: Ll, caseless", x.property(5, 4, false, true), 11);
        due("4: Lu and Ll", x.property(6, 45, false, false), 11);
        due("4: Lu is Lu and Ll", x.same(4, 6), 1);
        due("4: Ll is Lu and Ll", x.same(5, 6), 1);
        due("4: Lo, caseless, is Lo alone", x.property(7, 5, false, true), 9);
        CharacterSets y = new CharacterSets(0);
        due("4: Nd without UTF", y.property(0, 8, false, false), 1);
        dueRanges("4: Nd without UTF", y, 0, 0x30, 0x39);
        due("4: not Nd without UTF", y.property(1, 8, true, false), 2);
        dueRanges("4: not Nd without UTF", y, 1, 0, 0x2F, 0x3A, 0xFF);
        due("4: not Ll, caseless", y.property(2, 4, true, true), 6);
        dueRanges("4: not Ll, caseless", y, 2, 0, 0x40, 0x5B, 0x60, 0x7B, 0xB4, 0xB6, 0xBF,
                0xD7, 0xD7, 0xF7, 0xF7);
    }

    private static void promise4PropertyNumbers() {
        int[] sizesWithUtf = {
            1073702, 65, 7, 6400, 197, 32411, 193, 113, 20, 16, 6, 1, 7, 3, 3, 5, 30, 5, 37, 6, 15,
            852, 1, 1, 16};
        int sum = 0;
        for (int k = 0; k < 25; k++) {
            CharacterSets x = new CharacterSets(1);
            x.property(0, k, false, false);
            due("4: size of CATEGORY " + k, x.size(0), sizesWithUtf[k]);
            x.property(1, k, true, false);
            due("4: size of all but CATEGORY " + k, x.size(1), LAST + 1 - sizesWithUtf[k]);
            due("4: nothing is in both", x.meets(0, 1), 0);
            sum += sizesWithUtf[k];
        }
        due("4: all CATEGORIES", sum, LAST + 1);
        CharacterSets x = new CharacterSets(1);
        x.property(0, 26, false, false);
        x.property(0, 28, false, false);
        x.property(1, 46, false, false);
        due("4: 46 is L and N", x.same(0, 1), 1);
        due("4: 46 is without 5F", x.has(1, 0x5F), 0);
        x.range(0, 0x5F, 0x5F);
        x.property(2, 47, false, false);
        due("4: 47 is L, N and 5F", x.same(0, 2), 1);
        x.property(3, 31, false, false);
        x.range(3, 9, 0xD);
        x.range(3, 0x85, 0x85);
        x.property(4, 48, false, false);
        due("4: 48 is 9-D, 85 and Z", x.same(3, 4), 1);
    }

    private static void promise4PropertyRefused() {
        CharacterSets x = new CharacterSets(3);
        x.range(0, 1, 2);
        int[] none = {-1, 49, Integer.MIN_VALUE, Integer.MAX_VALUE, 32 + 48};
        for (int k : none) {
            due("4: property " + k, x.property(0, k, false, false), REFUSED);
            due("4: not property " + k, x.property(0, k, true, true), REFUSED);
        }
        dueRanges("4: refused changes nothing", x, 0, 1, 2);
    }

    private static void dueNamed(int mode, int k, int... ends) {
        CharacterSets x = new CharacterSets(mode);
        due("5: mode " + mode + ", name " + k, x.named(0, k, false, false), ends.length / 2);
        dueRanges("5: mode " + mode + ", name " + k, x, 0, ends);
    }

    private static void promise5NamedWithoutUcp() {
        for (int mode = 0; mode < 2; mode++) {
            dueNamed(mode, 0, 0x30, 0x39);
            dueNamed(mode, 1, 0x30, 0x39, 0x41, 0x5A, 0x5F, 0x5F, 0x61, 0x7A);
            dueNamed(mode, 2, 9, 0xD, 0x20, 0x20);
            dueNamed(mode, 5, 0x41, 0x5A, 0x61, 0x7A);
            dueNamed(mode, 6, 0x61, 0x7A);
            dueNamed(mode, 7, 0x41, 0x5A);
            dueNamed(mode, 8, 0x30, 0x39);
            dueNamed(mode, 9, 0x30, 0x39, 0x41, 0x5A, 0x61, 0x7A);
            dueNamed(mode, 10, 0x30, 0x39, 0x41, 0x5A, 0x5F, 0x5F, 0x61, 0x7A);
            dueNamed(mode, 11, 9, 0xD, 0x20, 0x20);
            dueNamed(mode, 12, 9, 9, 0x20, 0x20);
            dueNamed(mode, 13, 0, 0x1F, 0x7F, 0x7F);
            dueNamed(mode, 14, 0x21, 0x7E);
            dueNamed(mode, 15, 0x20, 0x7E);
            dueNamed(mode, 16, 0x21, 0x2F, 0x3A, 0x40, 0x5B, 0x60, 0x7B, 0x7E);
        }
        for (int mode = 0; mode < 4; mode++) {
            dueNamed(mode, 17, 0x30, 0x39, 0x41, 0x46, 0x61, 0x66);
            dueNamed(mode, 18, 0, 0x7F);
        }
        for (int mode = 0; mode < 4; mode += 2) {
            dueNamed(mode, 3, 9, 9, 0x20, 0x20, 0xA0, 0xA0);
            dueNamed(mode, 4, 0xA, 0xD, 0x85, 0x85);
            dueNamed(mode + 1, 3, 9, 9, 0x20, 0x20, 0xA0, 0xA0, 0x1680, 0x1680, 0x180E, 0x180E,
                    0x2000, 0x200A, 0x202F, 0x202F, 0x205F, 0x205F, 0x3000, 0x3000);
            dueNamed(mode + 1, 4, 0xA, 0xD, 0x85, 0x85, 0x2028, 0x2029);
        }
    }

    private static void promise5NamedWithUcp() {
        dueNamed(2, 0, 0x30, 0x39);
        dueNamed(3, 0, 0x30, 0x39, 0x660, 0x669);
        dueNamed(3, 8, 0x30, 0x39, 0x660, 0x669);
        dueNamed(2, 1, 0x30, 0x39, 0x41, 0x5A, 0x5F, 0x5F, 0x61, 0x7A, 0xAA, 0xAA, 0xB2, 0xB3,
                0xB5, 0xB5, 0xB9, 0xBA, 0xBC, 0xBE, 0xC0, 0xD6, 0xD8, 0xF6, 0xF8, 0xFF);
        dueNamed(2, 10, 0x30, 0x39, 0x41, 0x5A, 0x5F, 0x5F, 0x61, 0x7A, 0xAA, 0xAA, 0xB2, 0xB3,
                0xB5, 0xB5, 0xB9, 0xBA, 0xBC, 0xBE, 0xC0, 0xD6, 0xD8, 0xF6, 0xF8, 0xFF);
        dueNamed(2, 9, 0x30, 0x39, 0x41, 0x5A, 0x61, 0x7A, 0xAA, 0xAA, 0xB2, 0xB3,
                0xB5, 0xB5, 0xB9, 0xBA, 0xBC, 0xBE, 0xC0, 0xD6, 0xD8, 0xF6, 0xF8, 0xFF);
        dueNamed(2, 5, 0x41, 0x5A, 0x61, 0x7A, 0xAA, 0xAA, 0xB5, 0xB5, 0xBA, 0xBA, 0xC0, 0xD6,
                0xD8, 0xF6, 0xF8, 0xFF);
        dueNamed(2, 6, 0x61, 0x7A, 0xB5, 0xB5, 0xDF, 0xF6, 0xF8, 0xFF);
        dueNamed(2, 7, 0x41, 0x5A, 0xC0, 0xD6, 0xD8, 0xDE);
        dueNamed(3, 2, 9, 0xD, 0x20, 0x20, 0x85, 0x85, 0xA0, 0xA0, 0x2000, 0x200A,
                0x2028, 0x2029, 0x202F, 0x202F, 0x205F, 0x205F, 0x3000, 0x3000);
        dueNamed(3, 11, 9, 0xD, 0x20, 0x20, 0x85, 0x85, 0xA0, 0xA0, 0x2000, 0x200A,
                0x2028, 0x2029, 0x202F, 0x202F, 0x205F, 0x205F, 0x3000, 0x3000);
        dueNamed(3, 12, 9, 9, 0x20, 0x20, 0xA0, 0xA0, 0x1680, 0x1680, 0x180E, 0x180E,
                0x2000, 0x200A, 0x202F, 0x202F, 0x205F, 0x205F, 0x3000, 0x3000);
        dueNamed(3, 13, 0, 0x1F, 0x7F, 0x9F);
        dueNamed(2, 14, 0x21, 0x7E, 0xA1, 0xFF);
        dueNamed(2, 15, 0x20, 0x7E, 0xA0, 0xFF);
        dueNamed(2, 16, 0x21, 0x2F, 0x3A, 0x40, 0x5B, 0x60, 0x7B, 0x7E, 0xA1, 0xA1, 0xA7, 0xA7,
                0xAB, 0xAB, 0xB6, 0xB7, 0xBB, 0xBB, 0xBF, 0xBF);
        CharacterSets x = new CharacterSets(3);
        x.named(0, 15, false, false);
        due("5: print without Zl", x.has(0, 0x2028), 0);
        due("5: print without Zp", x.has(0, 0x2029), 0);
        due("5: print with Co", x.has(0, 0xE000), 1);
        due("5: print with Cf", x.has(0, 0xFEFF), 1);
        due("5: print with Zs", x.has(0, 0x3000), 1);
    }

    private static void promise5NamedFlags() {
        CharacterSets x = new CharacterSets(0);
        due("5: lower, caseless", x.named(0, 6, false, true), 2);
        due("5: upper, caseless", x.named(1, 7, false, true), 2);
        dueRanges("5: lower, caseless", x, 0, 0x41, 0x5A, 0x61, 0x7A);
        due("5: both mean alpha", x.same(0, 1), 1);
        due("5: xdigit, caseless", x.named(2, 17, false, true), 3);
        due("5: not digit", x.named(3, 0, true, false), 2);
        dueRanges("5: not digit", x, 3, 0, 0x2F, 0x3A, 0xFF);
        due("5: comes to what is there", x.named(3, 8, false, false), 1);
        due("5: not upper, caseless", x.named(4, 7, true, true), 3);
        dueRanges("5: not upper, caseless", x, 4, 0, 0x40, 0x5B, 0x60, 0x7B, 0xFF);
        CharacterSets y = new CharacterSets(3);
        y.named(0, 6, false, true);
        y.property(1, 26, false, false);
        due("5: lower, caseless, with UCP is L", y.same(0, 1), 1);
        due("5: not \\v", y.named(2, 4, true, false), 4);
        dueRanges("5: not \\v", y, 2, 0, 9, 0xE, 0x84, 0x86, 0x2027, 0x202A, LAST);
        int[] none = {-1, 19, Integer.MIN_VALUE, Integer.MAX_VALUE};
        for (int k : none) {
            due("5: name " + k, y.named(2, k, false, false), REFUSED);
            due("5: not name " + k, y.named(2, k, true, true), REFUSED);
        }
        dueRanges("5: refused changes nothing", y, 2, 0, 9, 0xE, 0x84, 0x86, 0x2027, 0x202A, LAST);
    }

    private static void dueClose(int mode, int c, int... closed) {
        CharacterSets x = new CharacterSets(mode);
        x.range(0, c, c);
        due("6: mode " + mode + ", close of " + c, x.close(0), closed.length - 1);
        due("6: mode " + mode + ", size of closed " + c, x.size(0), closed.length);
        for (int member : closed) {
            due("6: mode " + mode + ", closed " + c + " has " + member, x.has(0, member), 1);
        }
        due("6: mode " + mode + ", nothing comes twice to " + c, x.close(0), 0);
    }

    private static void promise6Close() {
        int[][] threes = {
            {0x53, 0x73, 0x17F}, {0x4B, 0x6B, 0x212A}, {0xC5, 0xE5, 0x212B},
            {0xB5, 0x39C, 0x3BC}, {0x3A3, 0x3C2, 0x3C3}};
        for (int[] three : threes) {
            for (int c : three) {
                dueClose(1, c, three);
                dueClose(3, c, three);
            }
        }
        int[][] twos = {
            {0x41, 0x61}, {0x5A, 0x7A}, {0xC0, 0xE0}, {0xDE, 0xFE}, {0x391, 0x3B1}, {0x3A9, 0x3C9},
            {0x410, 0x430}, {0x42F, 0x44F}, {0x400, 0x450}, {0x40F, 0x45F}, {0x100, 0x101},
            {0x12E, 0x12F}, {0x132, 0x133}, {0x136, 0x137}, {0x139, 0x13A}, {0x147, 0x148},
            {0x14A, 0x14B}, {0x176, 0x177}, {0x179, 0x17A}, {0x17D, 0x17E}, {0xFF, 0x178}};
        for (int[] two : twos) {
            dueClose(1, two[0], two);
            dueClose(1, two[1], two);
        }
        int[] alone = {
            0, 0x40, 0x5B, 0x60, 0x7B, 0xAA, 0xD7, 0xDF, 0xF7, 0x130, 0x131, 0x138, 0x149, 0x3A2,
            0x3AA, 0x3B0, 0x3CA, 0x460, 0x2129, 0x212C, 0x2160, LAST};
        for (int c : alone) {
            dueClose(1, c, c);
        }
        CharacterSets x = new CharacterSets(1);
        due("6: close of an empty SET", x.close(0), 0);
        x.range(0, 0, LAST);
        due("6: close of all", x.close(0), 0);
        x.range(1, 0x41, 0x5A);
        due("6: close of A-Z", x.close(1), 28);
        dueRanges("6: close of A-Z", x, 1, 0x41, 0x5A, 0x61, 0x7A, 0x17F, 0x17F, 0x212A, 0x212A);
    }

    private static void promise6CloseInModes() {
        dueClose(0, 0x41, 0x41, 0x61);
        dueClose(0, 0x6B, 0x6B, 0x4B);
        dueClose(0, 0x53, 0x53, 0x73);
        dueClose(0, 0xC0, 0xC0);
        dueClose(0, 0xE5, 0xE5);
        dueClose(0, 0xB5, 0xB5);
        dueClose(0, 0xFF, 0xFF);
        dueClose(2, 0x4B, 0x4B, 0x6B);
        dueClose(2, 0x73, 0x53, 0x73);
        dueClose(2, 0xC0, 0xC0, 0xE0);
        dueClose(2, 0xE5, 0xC5, 0xE5);
        dueClose(2, 0xB5, 0xB5);
        dueClose(2, 0xFF, 0xFF);
    }

    private static void promise7Invert() {
        CharacterSets x = new CharacterSets(1);
        due("7: of nothing", x.invert(0), 1);
        dueRanges("7: of nothing", x, 0, 0, LAST);
        due("7: of all", x.invert(0), 0);
        dueRanges("7: of all", x, 0);
        x.range(1, 0, 4);
        due("7: from 0", x.invert(1), 1);
        dueRanges("7: from 0", x, 1, 5, LAST);
        due("7: to the last", x.invert(1), 1);
        dueRanges("7: to the last", x, 1, 0, 4);
        x.range(1, LAST, LAST);
        due("7: at both ends", x.invert(1), 1);
        dueRanges("7: at both ends", x, 1, 5, LAST - 1);
        due("7: inside", x.invert(1), 2);
        dueRanges("7: inside", x, 1, 0, 4, LAST, LAST);
        CharacterSets y = new CharacterSets(2);
        y.range(0, 0x41, 0x5A);
        due("7: without UTF", y.invert(0), 2);
        dueRanges("7: without UTF", y, 0, 0, 0x40, 0x5B, 0xFF);
        dueRanges("7: the others stay", y, 1);
    }

    private static void promise8Join() {
        CharacterSets x = new CharacterSets(1);
        x.range(0, 10, 19);
        x.range(0, 40, 49);
        x.range(1, 20, 29);
        x.range(1, 45, 60);
        x.range(1, 80, 80);
        due("8: join", x.join(0, 1), 3);
        dueRanges("8: join", x, 0, 10, 29, 40, 60, 80, 80);
        dueRanges("8: the second stays", x, 1, 20, 29, 45, 60, 80, 80);
        due("8: again", x.join(0, 1), 3);
        due("8: with itself", x.join(0, 0), 3);
        dueRanges("8: with itself", x, 0, 10, 29, 40, 60, 80, 80);
        due("8: with an empty one", x.join(0, 2), 3);
        due("8: into an empty one", x.join(2, 0), 3);
        due("8: two empty ones", x.join(3, 4), 0);
        due("8: the copy is the same", x.same(2, 0), 1);
        x.clear(0);
        dueRanges("8: the copy stands alone", x, 2, 10, 29, 40, 60, 80, 80);
    }

    private static void promise9Meets() {
        CharacterSets x = new CharacterSets(1);
        due("9: empty ones", x.meets(0, 1), 0);
        due("9: an empty one with itself", x.meets(0, 0), 0);
        x.range(0, 10, 19);
        due("9: with an empty one", x.meets(0, 1), 0);
        due("9: of an empty one", x.meets(1, 0), 0);
        x.range(1, 20, 29);
        due("9: neighbours", x.meets(0, 1), 0);
        due("9: neighbours, turned", x.meets(1, 0), 0);
        x.range(1, 0, 9);
        due("9: neighbours on both sides", x.meets(0, 1), 0);
        x.range(2, 19, 19);
        due("9: the last one", x.meets(0, 2), 1);
        due("9: the last one, turned", x.meets(2, 0), 1);
        x.range(3, 5, 10);
        due("9: the first one", x.meets(0, 3), 1);
        due("9: with itself", x.meets(0, 0), 1);
        x.range(4, LAST, LAST);
        x.range(5, LAST, LAST);
        due("9: the last character", x.meets(4, 5), 1);
        x.range(6, 0, 0);
        x.range(7, 0, 0);
        due("9: the first character", x.meets(6, 7), 1);
        dueRanges("9: nothing changes", x, 0, 10, 19);
    }

    private static void promise10Same() {
        CharacterSets x = new CharacterSets(1);
        due("10: empty ones", x.same(0, 1), 1);
        x.range(0, 10, 19);
        due("10: with an empty one", x.same(0, 1), 0);
        due("10: of an empty one", x.same(1, 0), 0);
        x.range(1, 10, 14);
        due("10: a part", x.same(0, 1), 0);
        x.range(1, 15, 19);
        due("10: put together", x.same(0, 1), 1);
        due("10: with itself", x.same(0, 0), 1);
        x.range(2, 10, 18);
        x.range(3, 11, 19);
        due("10: other end", x.same(0, 2), 0);
        due("10: other start", x.same(0, 3), 0);
        due("10: as many", x.same(2, 3), 0);
        x.range(0, 30, 30);
        due("10: one range more", x.same(0, 1), 0);
        due("10: one range less", x.same(1, 0), 0);
        x.invert(0);
        x.invert(0);
        x.range(1, 30, 30);
        due("10: turned round twice", x.same(0, 1), 1);
    }

    private static void promise11Has() {
        CharacterSets x = new CharacterSets(1);
        due("11: empty", x.has(0, 0), 0);
        x.range(0, 10, 19);
        x.range(0, 21, 21);
        int[] in = {10, 15, 19, 21};
        int[] out = {0, 9, 20, 22, LAST, LAST + 1, -1, Integer.MIN_VALUE, Integer.MAX_VALUE};
        for (int c : in) {
            due("11: " + c, x.has(0, c), 1);
        }
        for (int c : out) {
            due("11: " + c, x.has(0, c), 0);
        }
        x.range(1, 0, LAST);
        due("11: the first of all", x.has(1, 0), 1);
        due("11: the last of all", x.has(1, LAST), 1);
        due("11: before all", x.has(1, -1), 0);
        due("11: behind all", x.has(1, LAST + 1), 0);
        CharacterSets y = new CharacterSets(0);
        y.invert(0);
        due("11: FF without UTF", y.has(0, 0xFF), 1);
        due("11: 100 without UTF", y.has(0, 0x100), 0);
    }

    private static void promise12Size() {
        CharacterSets x = new CharacterSets(1);
        due("12: empty", x.size(0), 0);
        x.range(0, 5, 5);
        due("12: one", x.size(0), 1);
        x.range(0, 7, 9);
        due("12: two ranges", x.size(0), 4);
        x.range(0, 5, 9);
        due("12: grown together", x.size(0), 5);
        x.range(0, 0, LAST);
        due("12: all", x.size(0), 0x110000);
        due("12: another", x.size(1), 0);
    }

    private static void promise13Least() {
        CharacterSets x = new CharacterSets(1);
        due("13: empty", x.least(0, 0), -1);
        x.range(0, 10, 19);
        x.range(0, 30, 30);
        int[] asked = {
            0, 9, 10, 15, 19, 20, 29, 30, 31, LAST, LAST + 1, -1, Integer.MIN_VALUE, Integer.MAX_VALUE};
        int[] answer = {10, 10, 10, 15, 19, 30, 30, 30, -1, -1, -1, 10, 10, -1};
        for (int i = 0; i < asked.length; i++) {
            due("13: from " + asked[i], x.least(0, asked[i]), answer[i]);
        }
        x.range(1, 0, LAST);
        due("13: of all from 0", x.least(1, 0), 0);
        due("13: of all from -1", x.least(1, -1), 0);
        due("13: of all from the last", x.least(1, LAST), LAST);
        due("13: of all from behind the last", x.least(1, LAST + 1), -1);
    }

    private static void promise14Bound() {
        CharacterSets x = new CharacterSets(1);
        due("14: empty", x.bound(0, 0, false), REFUSED);
        due("14: empty, end", x.bound(0, 0, true), REFUSED);
        x.range(0, 30, 39);
        x.range(0, 10, 19);
        x.range(0, LAST, LAST);
        due("14: range 0", x.bound(0, 0, false), 10);
        due("14: range 0, end", x.bound(0, 0, true), 19);
        due("14: range 1", x.bound(0, 1, false), 30);
        due("14: range 1, end", x.bound(0, 1, true), 39);
        due("14: range 2", x.bound(0, 2, false), LAST);
        due("14: range 2, end", x.bound(0, 2, true), LAST);
        int[] none = {-1, 3, 1 << 30, Integer.MIN_VALUE, Integer.MAX_VALUE};
        for (int k : none) {
            due("14: range " + k, x.bound(0, k, false), REFUSED);
            due("14: range " + k + ", end", x.bound(0, k, true), REFUSED);
        }
    }

    private static void promise15Categories() {
        int[][] rows = {
            {0, 1}, {0x1F, 1}, {0x20, 24}, {0x24, 18}, {0x28, 17}, {0x29, 13}, {0x2B, 20}, {0x2D, 12},
            {0x30, 8}, {0x40, 16}, {0x41, 6}, {0x5E, 19}, {0x5F, 11}, {0x7A, 4}, {0x7F, 1}, {0x9F, 1},
            {0xA6, 21}, {0xAA, 5}, {0xAB, 15}, {0xAD, 2}, {0xB2, 10}, {0xB5, 4}, {0xBB, 14}, {0xDF, 4},
            {0x100, 6}, {0x101, 4}, {0x130, 6}, {0x131, 4}, {0x137, 4}, {0x138, 4}, {0x139, 6},
            {0x148, 4}, {0x149, 4}, {0x14A, 6}, {0x177, 4}, {0x178, 6}, {0x179, 6}, {0x17E, 4},
            {0x17F, 4}, {0x180, 0}, {0x300, 7}, {0x3A2, 0}, {0x3C2, 4}, {0x3CA, 0}, {0x400, 6},
            {0x430, 4}, {0x640, 0}, {0x669, 8}, {0x2028, 22}, {0x2029, 23}, {0x202A, 0}, {0x212A, 6},
            {0x212B, 6}, {0x212C, 0}, {0x2160, 9}, {0x4E00, 5}, {0xE000, 3}, {0xF8FF, 3}, {0xF900, 0},
            {0xFE0F, 7}, {0xFEFF, 2}, {0x1F300, 21}, {0x1F64F, 21}, {0x1F650, 0}, {LAST, 0}};
        for (int mode = 0; mode < 4; mode++) {
            CharacterSets x = new CharacterSets(mode);
            for (int[] row : rows) {
                due("15: CATEGORY of " + row[0], x.about(row[0], 0), row[1]);
            }
        }
    }

    private static void promise15Scripts() {
        int[][] rows = {
            {0, 1}, {0x40, 1}, {0x41, 2}, {0x7A, 2}, {0xAA, 2}, {0xB5, 1}, {0xBA, 2}, {0xD7, 1},
            {0xFF, 2}, {0x17F, 2}, {0x180, 0}, {0x300, 11}, {0x36F, 11}, {0x390, 0}, {0x391, 3},
            {0x3A2, 0}, {0x3AA, 0}, {0x3C9, 3}, {0x400, 4}, {0x45F, 4}, {0x460, 0}, {0x5D0, 5},
            {0x5EA, 5}, {0x620, 6}, {0x640, 0}, {0x64A, 6}, {0x660, 1}, {0x2000, 1}, {0x2129, 0},
            {0x212A, 2}, {0x212B, 2}, {0x2160, 1}, {0x3041, 7}, {0x3097, 0}, {0x30A1, 8}, {0x4E00, 9},
            {0x9FFF, 9}, {0xAC00, 10}, {0xD7A3, 10}, {0xD7A4, 0}, {0xE000, 0}, {0xFE0F, 11},
            {0xFEFF, 1}, {0x1F300, 1}, {LAST, 0}};
        for (int mode = 0; mode < 4; mode++) {
            CharacterSets x = new CharacterSets(mode);
            for (int[] row : rows) {
                due("15: SCRIPT of " + row[0], x.about(row[0], 1), row[1]);
            }
        }
    }

    private static void dueCase(int mode, int c, int upper, int lower, int next) {
        CharacterSets x = new CharacterSets(mode);
        due("15: mode " + mode + ", UPPER of " + c, x.about(c, 2), upper);
        due("15: mode " + mode + ", LOWER of " + c, x.about(c, 3), lower);
        due("15: mode " + mode + ", next to " + c, x.about(c, 4), next);
    }

    private static void promise15Cases() {
        for (int mode = 1; mode < 4; mode += 2) {
            dueCase(mode, 0x41, 0x41, 0x61, 0x61);
            dueCase(mode, 0x61, 0x41, 0x61, 0x41);
            dueCase(mode, 0x4B, 0x4B, 0x6B, 0x6B);
            dueCase(mode, 0x6B, 0x4B, 0x6B, 0x212A);
            dueCase(mode, 0x212A, 0x212A, 0x6B, 0x4B);
            dueCase(mode, 0x53, 0x53, 0x73, 0x73);
            dueCase(mode, 0x73, 0x53, 0x73, 0x17F);
            dueCase(mode, 0x17F, 0x53, 0x17F, 0x53);
            dueCase(mode, 0xC5, 0xC5, 0xE5, 0xE5);
            dueCase(mode, 0xE5, 0xC5, 0xE5, 0x212B);
            dueCase(mode, 0x212B, 0x212B, 0xE5, 0xC5);
            dueCase(mode, 0xB5, 0x39C, 0xB5, 0x39C);
            dueCase(mode, 0x39C, 0x39C, 0x3BC, 0x3BC);
            dueCase(mode, 0x3BC, 0x39C, 0x3BC, 0xB5);
            dueCase(mode, 0x3A3, 0x3A3, 0x3C3, 0x3C2);
            dueCase(mode, 0x3C2, 0x3A3, 0x3C2, 0x3C3);
            dueCase(mode, 0x3C3, 0x3A3, 0x3C3, 0x3A3);
            dueCase(mode, 0xFF, 0x178, 0xFF, 0x178);
            dueCase(mode, 0x178, 0x178, 0xFF, 0xFF);
            dueCase(mode, 0x400, 0x400, 0x450, 0x450);
            dueCase(mode, 0x45F, 0x40F, 0x45F, 0x40F);
            dueCase(mode, 0x12F, 0x12E, 0x12F, 0x12E);
            int[] alone = {0x30, 0xDF, 0x130, 0x131, 0x138, 0x149, 0xD7, 0x3A2, 0x4E00, LAST};
            for (int c : alone) {
                dueCase(mode, c, c, c, c);
            }
        }
    }

    private static void promise15CasesInModes() {
        for (int mode = 0; mode < 4; mode += 2) {
            dueCase(mode, 0x41, 0x41, 0x61, 0x61);
            dueCase(mode, 0x6B, 0x4B, 0x6B, 0x4B);
            dueCase(mode, 0x73, 0x53, 0x73, 0x53);
            dueCase(mode, 0xB5, 0xB5, 0xB5, 0xB5);
            dueCase(mode, 0xFF, 0xFF, 0xFF, 0xFF);
            dueCase(mode, 0xDF, 0xDF, 0xDF, 0xDF);
        }
        dueCase(0, 0xC5, 0xC5, 0xC5, 0xC5);
        dueCase(0, 0xE0, 0xE0, 0xE0, 0xE0);
        dueCase(2, 0xC5, 0xC5, 0xE5, 0xE5);
        dueCase(2, 0xE5, 0xC5, 0xE5, 0xC5);
        dueCase(2, 0xE0, 0xC0, 0xE0, 0xC0);
    }

    private static void promise15Refused() {
        int[] none = {-1, LAST + 1, Integer.MIN_VALUE, Integer.MAX_VALUE};
        for (int mode = 0; mode < 4; mode++) {
            CharacterSets x = new CharacterSets(mode);
            for (int c : none) {
                for (int what = 0; what < 5; what++) {
                    due("15: mode " + mode + ", about " + c, x.about(c, what), REFUSED);
                }
            }
            int[] nothing = {-1, 5, Integer.MIN_VALUE, Integer.MAX_VALUE};
            for (int what : nothing) {
                due("15: mode " + mode + ", what " + what, x.about(0x41, what), REFUSED);
            }
            boolean utf = (mode & 1) != 0;
            for (int what = 2; what < 5; what++) {
                due("15: mode " + mode + ", 4E00", x.about(0x4E00, what), utf ? 0x4E00 : REFUSED);
                due("15: mode " + mode + ", 100", x.about(0x100, what) == REFUSED ? 1 : 0, utf ? 0 : 1);
            }
        }
    }

    private static void setsThatThereAreNot() {
        CharacterSets x = new CharacterSets(3);
        x.range(0, 65, 66);
        x.range(7, 65, 66);
        for (int s : NO_SETS) {
            due("2: SET " + s, x.clear(s), REFUSED);
            due("3: SET " + s, x.range(s, 1, 2), REFUSED);
            due("4: SET " + s, x.property(s, 0, false, false), REFUSED);
            due("5: SET " + s, x.named(s, 0, false, false), REFUSED);
            due("6: SET " + s, x.close(s), REFUSED);
            due("7: SET " + s, x.invert(s), REFUSED);
            due("8: SET " + s, x.join(s, 0), REFUSED);
            due("8: second SET " + s, x.join(0, s), REFUSED);
            due("9: SET " + s, x.meets(s, 0), REFUSED);
            due("9: second SET " + s, x.meets(0, s), REFUSED);
            due("10: SET " + s, x.same(s, 0), REFUSED);
            due("10: second SET " + s, x.same(0, s), REFUSED);
            due("10: both SETS " + s, x.same(s, s), REFUSED);
            due("11: SET " + s, x.has(s, 65), REFUSED);
            due("12: SET " + s, x.size(s), REFUSED);
            due("13: SET " + s, x.least(s, 65), REFUSED);
            due("14: SET " + s, x.bound(s, 0, false), REFUSED);
        }
        dueRanges("refused changes nothing", x, 0, 65, 66);
        dueRanges("refused changes nothing", x, 7, 65, 66);
        for (int s = 1; s < 7; s++) {
            dueRanges("refused changes nothing", x, s);
        }
    }
}
