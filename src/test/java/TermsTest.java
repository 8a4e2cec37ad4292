import java.util.ArrayList;
import java.util.List;

/**
 * The boundary cases that the words under 'Terms' name: both ends of every row of the table, of
 * every SCRIPT and of every row of CASES, with what lies right before and right behind them.
 */
public final class TermsTest {
    private static final int REFUSED = -2;
    private static final int LAST = 0x10FFFF;

    private static int wrong = 0;
    private static String sentence = "";

    private static void due(String call, int got, int want) {
        if (got != want) {
            wrong++;
            System.out.println(sentence + " | " + call + " answered " + got + ", due is " + want);
        }
    }

    public static void main(String[] args) {
        categories();
        capitalsByTurns();
        scripts();
        casesInRows();
        casesOfThree();
        lowerOnes();
        upperOnes();
        itself();
        modes();
        System.out.println(wrong == 0 ? "all answers are as due" : wrong + " answers are not as due");
        if (wrong != 0) {
            System.exit(1);
        }
    }

    // ---- THE TABLE

    /** First and last of each range, out of words as the document writes them. */
    private static List<int[]> read(String words) {
        List<int[]> ranges = new ArrayList<>();
        for (String word : words.split(" ")) {
            String[] ends = word.split("-");
            int low = Integer.parseInt(ends[0], 16);
            int high = Integer.parseInt(ends[ends.length - 1], 16);
            int before = ranges.size() - 1;
            if (before >= 0 && ranges.get(before)[1] == low - 1) {
                ranges.get(before)[1] = high;
            } else {
                ranges.add(new int[] {low, high});
            }
        }
        return ranges;
    }

    /** The property has exactly these ranges, and about answers its number at their ends alone. */
    private static void dueProperty(int k, int what, int number, String words) {
        List<int[]> ranges = read(words);
        CharacterSets x = new CharacterSets(1);
        due("property " + k, x.property(0, k, false, false), ranges.size());
        for (int i = 0; i < ranges.size(); i++) {
            int low = ranges.get(i)[0];
            int high = ranges.get(i)[1];
            due("low of range " + i, x.bound(0, i, false), low);
            due("high of range " + i, x.bound(0, i, true), high);
            CharacterSets y = new CharacterSets(i % 4);
            due("about(" + low + ", " + what + ")", y.about(low, what), number);
            due("about(" + high + ", " + what + ")", y.about(high, what), number);
            if (low > 0) {
                due("right before " + low, y.about(low - 1, what) == number ? 1 : 0, 0);
            }
            if (high < LAST) {
                due("right behind " + high, y.about(high + 1, what) == number ? 1 : 0, 0);
            }
        }
    }

    private static void categories() {
        String[] rows = {
            "180-2FF 370-390 3A2 3AA-3B0 3CA-3FF 460-5CF 5EB-61F 640 64B-65F 66A-1FFF 202A-202E "
                    + "2030-205E 2060-209F 20C0-2129 212C-215F 2170-218F 2195-2FFF 3001-3040 3097-30A0 "
                    + "30FB-4DFF A000-ABFF D7A4-DFFF F900-FE0E FE10-FEFE FF00-1F2FF 1F650-10FFFF",
            "0-1F 7F-9F",
            "AD 200B-200F FEFF",
            "E000-F8FF",
            "61-7A B5 DF-F6 F8-FF " + everySecond(0x101, 0x137) + "138 " + everySecond(0x13A, 0x148)
                    + "149 " + everySecond(0x14B, 0x177) + everySecond(0x17A, 0x17E)
                    + "17F 3B1-3C9 430-45F",
            "AA BA 5D0-5EA 620-63F 641-64A 3041-3096 30A1-30FA 4E00-9FFF AC00-D7A3",
            "41-5A C0-D6 D8-DE " + everySecond(0x100, 0x136) + everySecond(0x139, 0x147)
                    + everySecond(0x14A, 0x176) + "178 " + everySecond(0x179, 0x17D)
                    + "391-3A1 3A3-3A9 400-42F 212A 212B",
            "300-36F FE0F",
            "30-39 660-669",
            "2160-216F",
            "B2-B3 B9 BC-BE",
            "5F",
            "2D 2010-2015",
            "29 5D 7D",
            "BB 2019 201D",
            "AB 2018 201B-201C 201F",
            "21-23 25-27 2A 2C 2E-2F 3A-3B 3F-40 5C A1 A7 B6-B7 BF 2016-2017 2020-2027",
            "28 5B 7B 201A 201E",
            "24 A2-A5 20A0-20BF",
            "5E 60 A8 AF B4 B8",
            "2B 3C-3E 7C 7E AC B1 D7 F7 2190-2194",
            "A6 A9 AE B0 1F300-1F64F",
            "2028",
            "2029",
            "20 A0 2000-200A 202F 205F 3000"};
        for (int k = 0; k < rows.length; k++) {
            sentence = "the row of CATEGORY " + k;
            dueProperty(k, 0, k, rows[k]);
        }
    }

    private static String everySecond(int first, int last) {
        StringBuilder words = new StringBuilder();
        for (int c = first; c <= last; c += 2) {
            words.append(Integer.toHexString(c)).append(' ');
        }
        return words.toString();
    }

    private static void dueCategories(int number, int... characters) {
        for (int mode = 0; mode < 4; mode++) {
            CharacterSets x = new CharacterSets(mode);
            for (int c : characters) {
                due("about(" + c + ", 0)", x.about(c, 0), number);
            }
        }
    }

    private static void capitalsByTurns() {
        sentence = "of 100-137 and 14A-177 the even ones Lu";
        dueCategories(6, 0x100, 0x102, 0x130, 0x136, 0x14A, 0x14C, 0x176);
        sentence = "of 139-148 and 179-17E the odd ones Lu";
        dueCategories(6, 0x139, 0x13B, 0x147, 0x179, 0x17B, 0x17D);
        sentence = "and the others of 100-17F Ll";
        dueCategories(4, 0x101, 0x131, 0x135, 0x137, 0x138, 0x13A, 0x148, 0x149, 0x14B, 0x177, 0x17A,
                0x17E, 0x17F);
        sentence = "All others Cn.";
        dueCategories(0, 0x180, 0x2FF, 0x370, 0x390, 0x3A2, 0x640, 0xD7A4, 0xDFFF, 0xF900, LAST);
    }

    private static void scripts() {
        sentence = "Latin: what is Lu or Ll below 180, but for B5";
        dueProperty(34, 1, 2, "41-5A 61-7A AA BA C0-D6 D8-F6 F8-17F 212A 212B");
        sentence = "Greek: 391-3C9 that is not Cn";
        dueProperty(35, 1, 3, "391-3A1 3A3-3A9 3B1-3C9");
        sentence = "Cyrillic: 400-45F";
        dueProperty(36, 1, 4, "400-45F");
        sentence = "Hebrew: 5D0-5EA";
        dueProperty(37, 1, 5, "5D0-5EA");
        sentence = "Arabic: 620-64A that is not Cn";
        dueProperty(38, 1, 6, "620-63F 641-64A");
        sentence = "Hiragana 3041-3096";
        dueProperty(39, 1, 7, "3041-3096");
        sentence = "Katakana 30A1-30FA";
        dueProperty(40, 1, 8, "30A1-30FA");
        sentence = "Han 4E00-9FFF";
        dueProperty(41, 1, 9, "4E00-9FFF");
        sentence = "Hangul AC00-D7A3";
        dueProperty(42, 1, 10, "AC00-D7A3");
        sentence = "Inherited: 300-36F FE0F";
        dueProperty(43, 1, 11, "300-36F FE0F");
        sentence = "Unknown: Cn and Co";
        dueProperty(32, 1, 0, "180-2FF 370-390 3A2 3AA-3B0 3CA-3FF 460-5CF 5EB-61F 640 64B-65F "
                + "66A-1FFF 202A-202E 2030-205E 2060-209F 20C0-2129 212C-215F 2170-218F 2195-2FFF "
                + "3001-3040 3097-30A0 30FB-4DFF A000-ABFF D7A4-FE0E FE10-FEFE FF00-1F2FF 1F650-10FFFF");
        sentence = "Common: all others";
        dueProperty(33, 1, 1, "0-40 5B-60 7B-A9 AB-B9 BB-BF D7 F7 660-669 2000-2029 202F 205F "
                + "20A0-20BF 2160-216F 2190-2194 3000 FEFF 1F300-1F64F");
    }

    // ---- CASE

    /** Of these, ascending, each one's next is the one behind it, and the last one's the first. */
    private static void dueCase(int mode, int... members) {
        CharacterSets x = new CharacterSets(mode);
        for (int i = 0; i < members.length; i++) {
            int next = members[(i + 1) % members.length];
            due("mode " + mode + ", about(" + members[i] + ", 4)", x.about(members[i], 4), next);
            x.clear(0);
            x.range(0, members[i], members[i]);
            due("mode " + mode + ", close of " + members[i], x.close(0), members.length - 1);
            for (int other : members) {
                due("mode " + mode + ", " + other + " came to " + members[i], x.has(0, other), 1);
            }
        }
    }

    private static void dueAlone(int mode, int... characters) {
        for (int c : characters) {
            dueCase(mode, c);
        }
    }

    private static void casesInRows() {
        for (int mode = 1; mode < 4; mode += 2) {
            sentence = "x and x + 20 for 41-5A";
            dueCase(mode, 0x41, 0x61);
            dueCase(mode, 0x5A, 0x7A);
            dueAlone(mode, 0x40, 0x5B, 0x60, 0x7B);
            sentence = "x and x + 20 for C0-D6 D8-DE";
            dueCase(mode, 0xC0, 0xE0);
            dueCase(mode, 0xD6, 0xF6);
            dueCase(mode, 0xD8, 0xF8);
            dueCase(mode, 0xDE, 0xFE);
            dueAlone(mode, 0xBF, 0xD7, 0xDF, 0xF7);
            sentence = "x and x + 20 for 391-3A1 3A3-3A9";
            dueCase(mode, 0x391, 0x3B1);
            dueCase(mode, 0x3A1, 0x3C1);
            dueCase(mode, 0x3A4, 0x3C4);
            dueCase(mode, 0x3A9, 0x3C9);
            dueAlone(mode, 0x390, 0x3A2, 0x3AA, 0x3B0, 0x3CA);
            sentence = "x and x + 20 for 410-42F";
            dueCase(mode, 0x410, 0x430);
            dueCase(mode, 0x42F, 0x44F);
            sentence = "x and x + 50 for 400-40F";
            dueCase(mode, 0x400, 0x450);
            dueCase(mode, 0x40F, 0x45F);
            dueAlone(mode, 0x3FF, 0x460);
            sentence = "an Lu of 100-12F 132-137 139-148 14A-177 179-17E and the one behind it";
            dueCase(mode, 0x100, 0x101);
            dueCase(mode, 0x12E, 0x12F);
            dueAlone(mode, 0x130, 0x131);
            dueCase(mode, 0x132, 0x133);
            dueCase(mode, 0x136, 0x137);
            dueAlone(mode, 0x138);
            dueCase(mode, 0x139, 0x13A);
            dueCase(mode, 0x147, 0x148);
            dueAlone(mode, 0x149);
            dueCase(mode, 0x14A, 0x14B);
            dueCase(mode, 0x176, 0x177);
            dueCase(mode, 0x179, 0x17A);
            dueCase(mode, 0x17D, 0x17E);
            dueAlone(mode, 0x180);
            sentence = "178 and FF";
            dueCase(mode, 0xFF, 0x178);
        }
    }

    private static void casesOfThree() {
        for (int mode = 1; mode < 4; mode += 2) {
            sentence = "17F with 53 and 73";
            dueCase(mode, 0x53, 0x73, 0x17F);
            sentence = "212A with 4B and 6B";
            dueCase(mode, 0x4B, 0x6B, 0x212A);
            sentence = "212B with C5 and E5";
            dueCase(mode, 0xC5, 0xE5, 0x212B);
            dueAlone(mode, 0x2129, 0x212C);
            sentence = "B5 with 39C and 3BC";
            dueCase(mode, 0xB5, 0x39C, 0x3BC);
            dueAlone(mode, 0xB4, 0xB6);
            sentence = "3C2 with 3A3 and 3C3";
            dueCase(mode, 0x3A3, 0x3C2, 0x3C3);
        }
    }

    private static void dueAbout(int mode, int what, int... pairs) {
        CharacterSets x = new CharacterSets(mode);
        for (int i = 0; i < pairs.length; i += 2) {
            due("mode " + mode + ", about(" + pairs[i] + ", " + what + ")", x.about(pairs[i], what),
                    pairs[i + 1]);
        }
    }

    /* The ends of every row of CASES that are two alone: an Lu and its Ll. */
    private static final int[][] PAIRS = {
        {0x41, 0x61}, {0x5A, 0x7A}, {0xC0, 0xE0}, {0xD6, 0xF6}, {0xD8, 0xF8}, {0xDE, 0xFE},
        {0x391, 0x3B1}, {0x3A1, 0x3C1}, {0x3A4, 0x3C4}, {0x3A9, 0x3C9}, {0x410, 0x430}, {0x42F, 0x44F},
        {0x400, 0x450}, {0x40F, 0x45F}, {0x100, 0x101}, {0x12E, 0x12F}, {0x132, 0x133}, {0x136, 0x137},
        {0x139, 0x13A}, {0x147, 0x148}, {0x14A, 0x14B}, {0x176, 0x177}, {0x179, 0x17A}, {0x17D, 0x17E}};

    private static void lowerOnes() {
        for (int mode = 1; mode < 4; mode += 2) {
            sentence = "The LOWER one of an Lu is the Ll of its CASE";
            dueAbout(mode, 3, 0x178, 0xFF);
            for (int[] pair : PAIRS) {
                dueAbout(mode, 3, pair[0], pair[1]);
            }
            dueAbout(mode, 3, 0x212A, 0x6B, 0x212B, 0xE5, 0x4B, 0x6B, 0xC5, 0xE5);
            sentence = "that is not 17F";
            dueAbout(mode, 3, 0x53, 0x73);
            sentence = "that is not B5";
            dueAbout(mode, 3, 0x39C, 0x3BC);
            sentence = "that is not 3C2";
            dueAbout(mode, 3, 0x3A3, 0x3C3);
        }
    }

    private static void upperOnes() {
        for (int mode = 1; mode < 4; mode += 2) {
            sentence = "the UPPER one of an Ll";
            dueAbout(mode, 2, 0xFF, 0x178);
            for (int[] pair : PAIRS) {
                dueAbout(mode, 2, pair[1], pair[0]);
            }
            dueAbout(mode, 2, 0x17F, 0x53, 0xB5, 0x39C, 0x3BC, 0x39C, 0x3C2, 0x3A3, 0x3C3, 0x3A3);
            sentence = "the least Lu of its CASE";
            dueAbout(mode, 2, 0x6B, 0x4B, 0xE5, 0xC5);
        }
    }

    private static void itself() {
        for (int mode = 1; mode < 4; mode += 2) {
            sentence = "without such, itself";
            int[] alone = {0, 0x30, 0xAA, 0xDF, 0x130, 0x131, 0x138, 0x149, 0x300, 0x2160, 0x4E00, LAST};
            for (int c : alone) {
                dueAbout(mode, 2, c, c);
                dueAbout(mode, 3, c, c);
            }
            sentence = "also the LOWER one of an Ll";
            int[] lower = {0x61, 0x73, 0x17F, 0xB5, 0x3BC, 0x3C2, 0x3C3, 0xFF, 0x6B, 0xE5, 0x101};
            for (int c : lower) {
                dueAbout(mode, 3, c, c);
            }
            sentence = "the UPPER one of an Lu";
            int[] upper = {0x41, 0x53, 0x39C, 0x3A3, 0x178, 0x4B, 0x212A, 0xC5, 0x212B, 0x100};
            for (int c : upper) {
                dueAbout(mode, 2, c, c);
            }
        }
        sentence = "and where that of its CASE is not there";
        dueAbout(2, 2, 0xB5, 0xB5, 0xFF, 0xFF, 0xFE, 0xDE);
        dueAbout(0, 2, 0xB5, 0xB5, 0xFF, 0xFF, 0xFE, 0xFE);
    }

    private static void modes() {
        sentence = "With neither UTF nor UCP only A-Z and a-z have CASES";
        CharacterSets x = new CharacterSets(0);
        for (int c = 0; c <= 0xFF; c++) {
            boolean upper = c >= 0x41 && c <= 0x5A;
            boolean lower = c >= 0x61 && c <= 0x7A;
            due("about(" + c + ", 4)", x.about(c, 4), upper ? c + 0x20 : lower ? c - 0x20 : c);
        }
        sentence = "With UCP alone the others to FF have CASES, too";
        CharacterSets y = new CharacterSets(2);
        for (int c = 0; c <= 0xFF; c++) {
            boolean upper = (c >= 0x41 && c <= 0x5A) || (c >= 0xC0 && c <= 0xDE && c != 0xD7);
            boolean lower = (c >= 0x61 && c <= 0x7A) || (c >= 0xE0 && c <= 0xFE && c != 0xF7);
            due("about(" + c + ", 4)", y.about(c, 4), upper ? c + 0x20 : lower ? c - 0x20 : c);
        }
        sentence = "without UTF only characters to FF are there";
        for (int mode = 0; mode < 4; mode += 2) {
            CharacterSets z = new CharacterSets(mode);
            due("invert", z.invert(0), 1);
            due("the last", z.bound(0, 0, true), 0xFF);
            due("range(1, 100, 100)", z.range(1, 0x100, 0x100), REFUSED);
            due("about(100, 4)", z.about(0x100, 4), REFUSED);
            due("close of all", z.close(0), 0);
        }
    }
}
