import java.util.ArrayList;
import java.util.BitSet;
import java.util.List;
import java.util.Random;
import java.util.TreeSet;

/**
 * Compares the program with a second, slow one that reads the document's table as it is written
 * there: every character, every property and NAMED SET in every mode, and runs of mixed calls. No
 * object is asked more than the 512 calls that the document gives it, but where that is the test.
 */
public final class ReferenceTest {
    private static final int LAST = 0x10FFFF;
    private static final int REFUSED = -2;
    private static final int CALLS = 512;

    private static final String CATEGORIES =
            "0-1F 7F-9F Cc. 20 A0 2000-200A 202F 205F 3000 Zs. 2028 Zl. 2029 Zp. 21-23 25-27 2A 2C "
            + "2E-2F 3A-3B 3F-40 5C A1 A7 B6-B7 BF 2016-2017 2020-2027 Po. 24 A2-A5 20A0-20BF Sc. "
            + "28 5B 7B 201A 201E Ps. 29 5D 7D Pe. 2B 3C-3E 7C 7E AC B1 D7 F7 2190-2194 Sm. "
            + "2D 2010-2015 Pd. 30-39 660-669 Nd. 5E 60 A8 AF B4 B8 Sk. 5F Pc. "
            + "A6 A9 AE B0 1F300-1F64F So. AA BA 5D0-5EA 620-63F 641-64A 3041-3096 30A1-30FA "
            + "4E00-9FFF AC00-D7A3 Lo. AB 2018 201B-201C 201F Pi. BB 2019 201D Pf. "
            + "AD 200B-200F FEFF Cf. B2-B3 B9 BC-BE No. 2160-216F Nl. 300-36F FE0F Mn. "
            + "E000-F8FF Co. 41-5A C0-D6 D8-DE 391-3A1 3A3-3A9 400-42F 178 212A 212B Lu. "
            + "61-7A B5 DF-F6 F8-FF 138 149 17F 3B1-3C9 430-45F Ll.";
    private static final String SCRIPTS =
            "AA BA 212A 212B Latin. 391-3C9 Greek. 400-45F Cyrillic. 5D0-5EA Hebrew. 620-64A Arabic. "
            + "3041-3096 Hiragana. 30A1-30FA Katakana. 4E00-9FFF Han. AC00-D7A3 Hangul. "
            + "300-36F FE0F Inherited.";
    private static final String CATEGORY_NAMES =
            "Cn Cc Cf Co Ll Lo Lu Mn Nd Nl No Pc Pd Pe Pf Pi Po Ps Sc Sk Sm So Zl Zp Zs";
    private static final String SCRIPT_NAMES =
            "Unknown Common Latin Greek Cyrillic Hebrew Arabic Hiragana Katakana Han Hangul Inherited";
    private static final List<String> CATEGORY_LIST = List.of(CATEGORY_NAMES.split(" "));
    private static final List<String> SCRIPT_LIST = List.of(SCRIPT_NAMES.split(" "));

    private static final byte[] CATEGORY = new byte[LAST + 1];
    private static final byte[] SCRIPT = new byte[LAST + 1];

    private static int wrong = 0;

    private static void due(String call, int got, int want) {
        if (got != want) {
            wrong++;
            if (wrong <= 50) {
                System.out.println(call + " answered " + got + ", due is " + want);
            }
        }
    }

    public static void main(String[] args) {
        fillCategories();
        fillScripts();
        for (int mode = 0; mode < 4; mode++) {
            compareCharacters(mode);
            compareProperties(mode);
            compareNames(mode);
        }
        for (int seed = 0; seed < 400; seed++) {
            compareRun(seed, false);
        }
        for (int seed = 0; seed < 80; seed++) {
            compareRun(seed, true);
        }
        manyRanges();
        callsBeyondTheLast();
        System.out.println(wrong == 0 ? "all answers are as due" : wrong + " answers are not as due");
        if (wrong != 0) {
            System.exit(1);
        }
    }

    // ---- the table, out of the document's words

    private static void fillCategories() {
        readRows(CATEGORIES, CATEGORY_LIST, CATEGORY);
        for (int c = 0x100; c <= 0x17F; c++) {
            if (c == 0x138 || c == 0x149 || c == 0x178 || c == 0x17F) {
                continue;
            }
            boolean even = c <= 0x137 || (c >= 0x14A && c <= 0x177);
            CATEGORY[c] = (byte) CATEGORY_LIST.indexOf((c % 2 == 0) == even ? "Lu" : "Ll");
        }
    }

    private static void fillScripts() {
        for (int c = 0; c <= LAST; c++) {
            SCRIPT[c] = 1;
        }
        readRows(SCRIPTS, SCRIPT_LIST, SCRIPT);
        for (int c = 0; c <= LAST; c++) {
            String category = CATEGORY_LIST.get(CATEGORY[c]);
            if (c < 0x180 && c != 0xB5 && (category.equals("Lu") || category.equals("Ll"))) {
                SCRIPT[c] = 2;
            }
            if (category.equals("Cn") || category.equals("Co")) {
                SCRIPT[c] = 0;
            }
        }
    }

    private static void readRows(String rows, List<String> names, byte[] into) {
        for (String row : rows.split("\\.\\s*")) {
            String[] words = row.split(" ");
            int number = names.indexOf(words[words.length - 1]);
            if (number < 0) {
                throw new IllegalStateException(row);
            }
            for (int i = 0; i < words.length - 1; i++) {
                String[] ends = words[i].split("-");
                int low = Integer.parseInt(ends[0], 16);
                int high = Integer.parseInt(ends[ends.length - 1], 16);
                for (int c = low; c <= high; c++) {
                    into[c] = (byte) number;
                }
            }
        }
    }

    // ---- the second program

    private static final class Reference {
        final boolean ucp;
        final int last;
        final BitSet[] sets = new BitSet[8];
        final List<TreeSet<Integer>> cases = new ArrayList<>();

        Reference(int mode) {
            boolean utf = (mode & 1) == 1;
            ucp = (mode & 2) == 2;
            last = utf ? LAST : 0xFF;
            for (int s = 0; s < 8; s++) {
                sets[s] = new BitSet();
            }
            pairs(0x41, 0x5A, 0x20);
            if (utf || ucp) {
                pairs(0xC0, 0xD6, 0x20);
                pairs(0xD8, 0xDE, 0x20);
                pairs(0x391, 0x3A1, 0x20);
                pairs(0x3A3, 0x3A9, 0x20);
                pairs(0x410, 0x42F, 0x20);
                pairs(0x400, 0x40F, 0x50);
                neighbours(0x100, 0x12F);
                neighbours(0x132, 0x137);
                neighbours(0x139, 0x148);
                neighbours(0x14A, 0x177);
                neighbours(0x179, 0x17E);
                oneCase(0x178, 0xFF);
                oneCase(0x17F, 0x53, 0x73);
                oneCase(0x212A, 0x4B, 0x6B);
                oneCase(0x212B, 0xC5, 0xE5);
                oneCase(0xB5, 0x39C, 0x3BC);
                oneCase(0x3C2, 0x3A3, 0x3C3);
            }
        }

        void pairs(int low, int high, int distance) {
            for (int x = low; x <= high; x++) {
                oneCase(x, x + distance);
            }
        }

        void neighbours(int low, int high) {
            for (int x = low; x <= high; x++) {
                if (CATEGORY[x] == 6) {
                    oneCase(x, x + 1);
                }
            }
        }

        void oneCase(int... members) {
            TreeSet<Integer> all = new TreeSet<>();
            for (int c : members) {
                if (c <= last) {
                    all.add(c);
                }
            }
            for (int i = cases.size() - 1; i >= 0; i--) {
                for (int c : members) {
                    if (cases.get(i).contains(c)) {
                        all.addAll(cases.remove(i));
                        break;
                    }
                }
            }
            cases.add(all);
        }

        TreeSet<Integer> caseOf(int c) {
            for (TreeSet<Integer> one : cases) {
                if (one.contains(c)) {
                    return one;
                }
            }
            TreeSet<Integer> alone = new TreeSet<>();
            alone.add(c);
            return alone;
        }

        int about(int c, int what) {
            if (c < 0 || c > LAST || what < 0 || what > 4 || (what >= 2 && c > last)) {
                return REFUSED;
            }
            if (what == 0) {
                return CATEGORY[c];
            }
            if (what == 1) {
                return SCRIPT[c];
            }
            TreeSet<Integer> kin = caseOf(c);
            if (what == 4) {
                Integer greater = kin.higher(c);
                return greater == null ? kin.first() : greater;
            }
            for (int other : kin) {
                boolean lower = what == 3 && CATEGORY[c] == 6 && CATEGORY[other] == 4
                        && other != 0x17F && other != 0xB5 && other != 0x3C2;
                boolean upper = what == 2 && CATEGORY[c] == 4 && CATEGORY[other] == 6;
                if (lower || upper) {
                    return other;
                }
            }
            return c;
        }

        boolean ofLetter(int c, String letters) {
            return letters.indexOf(CATEGORY_LIST.get(CATEGORY[c]).charAt(0)) >= 0;
        }

        boolean inProperty(int c, int k) {
            if (k < 25) {
                return CATEGORY[c] == k;
            }
            if (k < 32) {
                return ofLetter(c, "CLMNPSZ".substring(k - 25, k - 24));
            }
            if (k < 44) {
                return SCRIPT[c] == k - 32;
            }
            switch (k) {
                case 44: return true;
                case 45: return CATEGORY[c] == 6 || CATEGORY[c] == 4;
                case 46: return ofLetter(c, "LN");
                case 47: return ofLetter(c, "LN") || c == 0x5F;
                default: return (c >= 9 && c <= 0xD) || c == 0x85 || ofLetter(c, "Z");
            }
        }

        boolean inName(int c, int k) {
            boolean horizontal = c == 9 || c == 0x20 || c == 0xA0 || c == 0x1680 || c == 0x180E
                    || (c >= 0x2000 && c <= 0x200A) || c == 0x202F || c == 0x205F || c == 0x3000;
            boolean digit = c >= '0' && c <= '9';
            switch (k) {
                case 3: return horizontal;
                case 4: return (c >= 0xA && c <= 0xD) || c == 0x85 || c == 0x2028 || c == 0x2029;
                case 17: return digit || (c >= 'A' && c <= 'F') || (c >= 'a' && c <= 'f');
                case 18: return c <= 0x7F;
                default: return ucp ? inUcpName(c, k, horizontal) : inAsciiName(c, k, digit);
            }
        }

        boolean inUcpName(int c, int k, boolean horizontal) {
            String category = CATEGORY_LIST.get(CATEGORY[c]);
            boolean graph = !ofLetter(c, "Z") && !category.equals("Cc") && !category.equals("Cn");
            switch (k) {
                case 0: case 8: return category.equals("Nd");
                case 1: case 10: return ofLetter(c, "LN") || c == 0x5F;
                case 2: case 11: return (c >= 9 && c <= 0xD) || c == 0x85 || ofLetter(c, "Z");
                case 5: return ofLetter(c, "L");
                case 6: return category.equals("Ll");
                case 7: return category.equals("Lu");
                case 9: return ofLetter(c, "LN");
                case 12: return horizontal;
                case 13: return category.equals("Cc");
                case 14: return graph;
                case 15: return graph || category.equals("Zs");
                default: return ofLetter(c, "P") || (ofLetter(c, "S") && c < 0x80);
            }
        }

        boolean inAsciiName(int c, int k, boolean digit) {
            boolean upper = c >= 'A' && c <= 'Z';
            boolean lower = c >= 'a' && c <= 'z';
            boolean graph = c >= 0x21 && c <= 0x7E;
            switch (k) {
                case 0: case 8: return digit;
                case 1: case 10: return digit || upper || lower || c == '_';
                case 2: case 11: return (c >= 9 && c <= 0xD) || c == 0x20;
                case 5: return upper || lower;
                case 6: return lower;
                case 7: return upper;
                case 9: return upper || lower || digit;
                case 12: return c == 9 || c == 0x20;
                case 13: return c <= 0x1F || c == 0x7F;
                case 14: return graph;
                case 15: return graph || c == 0x20;
                default: return graph && !(upper || lower || digit);
            }
        }

        int ranges(int s) {
            int count = 0;
            for (int c = sets[s].nextSetBit(0); c >= 0; c = sets[s].nextSetBit(sets[s].nextClearBit(c))) {
                count++;
            }
            return count;
        }

        int property(int s, int k, boolean not, boolean caseless) {
            if (s < 0 || s > 7 || k < 0 || k > 48) {
                return REFUSED;
            }
            int meant = caseless && (k == 4 || k == 6) ? 45 : k;
            for (int c = 0; c <= last; c++) {
                if (inProperty(c, meant) != not) {
                    sets[s].set(c);
                }
            }
            return ranges(s);
        }

        int named(int s, int k, boolean not, boolean caseless) {
            if (s < 0 || s > 7 || k < 0 || k > 18) {
                return REFUSED;
            }
            int meant = caseless && (k == 6 || k == 7) ? 5 : k;
            for (int c = 0; c <= last; c++) {
                if (inName(c, meant) != not) {
                    sets[s].set(c);
                }
            }
            return ranges(s);
        }

        int range(int s, int low, int high) {
            if (s < 0 || s > 7 || low < 0 || high > last || low > high) {
                return REFUSED;
            }
            sets[s].set(low, high + 1);
            return ranges(s);
        }

        int close(int s) {
            if (s < 0 || s > 7) {
                return REFUSED;
            }
            int before = sets[s].cardinality();
            for (TreeSet<Integer> one : cases) {
                boolean any = false;
                for (int c : one) {
                    any |= sets[s].get(c);
                }
                for (int c : one) {
                    sets[s].set(c, any);
                }
            }
            return sets[s].cardinality() - before;
        }

        int bound(int s, int k, boolean end) {
            if (s < 0 || s > 7 || k < 0) {
                return REFUSED;
            }
            int at = 0;
            for (int c = sets[s].nextSetBit(0); c >= 0; c = sets[s].nextSetBit(sets[s].nextClearBit(c))) {
                if (at++ == k) {
                    return end ? sets[s].nextClearBit(c) - 1 : c;
                }
            }
            return REFUSED;
        }
    }

    // ---- what is compared

    private static void compareCharacters(int mode) {
        CharacterSets x = new CharacterSets(mode);
        Reference r = new Reference(mode);
        int asked = 0;
        for (int what = 0; what <= 4; what++) {
            // Beyond these characters nothing has a CASE, and the search in the reference is slow.
            for (int c = 0; c <= LAST; c += what >= 2 && c > 0x2200 ? 97 : 1) {
                if (asked++ % CALLS == 0) {
                    x = new CharacterSets(mode);
                }
                due("mode " + mode + ": about(" + c + ", " + what + ")", x.about(c, what), r.about(c, what));
            }
        }
    }

    private static void compareSet(String where, CharacterSets x, Reference r, int s) {
        int ranges = r.ranges(s);
        due(where + ": size(" + s + ")", x.size(s), r.sets[s].cardinality());
        due(where + ": bound(" + s + ", " + ranges + ", false)", x.bound(s, ranges, false), REFUSED);
        int k = 0;
        for (int c = r.sets[s].nextSetBit(0); c >= 0;) {
            int behind = r.sets[s].nextClearBit(c);
            due(where + ": bound(" + s + ", " + k + ", false)", x.bound(s, k, false), c);
            due(where + ": bound(" + s + ", " + k + ", true)", x.bound(s, k, true), behind - 1);
            c = r.sets[s].nextSetBit(behind);
            k++;
        }
    }

    private static void compareProperties(int mode) {
        for (int k = -1; k <= 49; k++) {
            for (int flags = 0; flags < 4; flags++) {
                CharacterSets x = new CharacterSets(mode);
                Reference r = new Reference(mode);
                boolean not = (flags & 1) == 1;
                boolean caseless = (flags & 2) == 2;
                String call = "mode " + mode + ": property(3, " + k + ", " + not + ", " + caseless + ")";
                due(call, x.property(3, k, not, caseless), r.property(3, k, not, caseless));
                compareSet(call, x, r, 3);
            }
        }
    }

    private static void compareNames(int mode) {
        for (int k = -1; k <= 19; k++) {
            for (int flags = 0; flags < 4; flags++) {
                CharacterSets x = new CharacterSets(mode);
                Reference r = new Reference(mode);
                boolean not = (flags & 1) == 1;
                boolean caseless = (flags & 2) == 2;
                String call = "mode " + mode + ": named(5, " + k + ", " + not + ", " + caseless + ")";
                due(call, x.named(5, k, not, caseless), r.named(5, k, not, caseless));
                compareSet(call, x, r, 5);
            }
        }
    }

    private static int someCharacter(Random random) {
        switch (random.nextInt(8)) {
            case 0: return random.nextInt(LAST + 1);
            case 1: return 0x380 + random.nextInt(0xE0);
            case 2: return 0x2120 + random.nextInt(0x10);
            case 3: return random.nextInt(16) == 0 ? random.nextInt() : LAST - random.nextInt(3);
            case 4: return random.nextInt(16) == 0 ? -1 - random.nextInt(3) : random.nextInt(4);
            case 5: return 0xFC + random.nextInt(0x88);
            default: return random.nextInt(0x100);
        }
    }

    private static int someSet(Random random) {
        return random.nextInt(30) == 0 ? random.nextInt(2) * 9 - 1 : random.nextInt(8);
    }

    private static void compareRun(int seed, boolean mostlyRanges) {
        Random random = new Random(seed);
        int mode = random.nextInt();
        CharacterSets x = new CharacterSets(mode);
        Reference r = new Reference(mode);
        int calls = mostlyRanges ? 400 : 60;
        for (int i = 0; i < calls; i++) {
            String where = "seed " + seed + ", mode " + (mode & 3) + ", call " + i;
            int s = someSet(random);
            int t = someSet(random);
            int c = someCharacter(random);
            boolean good = s >= 0 && s < 8;
            boolean both = good && t >= 0 && t < 8;
            boolean flag = random.nextBoolean();
            int kind = mostlyRanges && random.nextInt(8) != 0 ? 1 : random.nextInt(14);
            switch (kind) {
                case 0:
                    if (good && random.nextInt(3) == 0) {
                        r.sets[s].clear();
                        due(where + " clear", x.clear(s), 0);
                    }
                    break;
                case 1: case 2: {
                    int high = flag ? c + random.nextInt(40) : someCharacter(random);
                    due(where + " range(" + s + ", " + c + ", " + high + ")", x.range(s, c, high), r.range(s, c, high));
                    break;
                }
                case 3: {
                    int k = random.nextInt(51) - 1;
                    boolean not = random.nextInt(6) == 0;
                    due(where + " property(" + s + ", " + k + ")", x.property(s, k, not, flag), r.property(s, k, not, flag));
                    break;
                }
                case 4: {
                    int k = random.nextInt(21) - 1;
                    boolean not = random.nextInt(6) == 0;
                    due(where + " named(" + s + ", " + k + ")", x.named(s, k, not, flag), r.named(s, k, not, flag));
                    break;
                }
                case 5:
                    due(where + " close(" + s + ")", x.close(s), r.close(s));
                    break;
                case 6:
                    if (good) {
                        r.sets[s].flip(0, r.last + 1);
                    }
                    due(where + " invert(" + s + ")", x.invert(s), good ? r.ranges(s) : REFUSED);
                    break;
                case 7:
                    if (both) {
                        r.sets[s].or(r.sets[t]);
                    }
                    due(where + " join(" + s + ", " + t + ")", x.join(s, t), both ? r.ranges(s) : REFUSED);
                    break;
                case 8:
                    due(where + " meets(" + s + ", " + t + ")", x.meets(s, t),
                            both ? (r.sets[s].intersects(r.sets[t]) ? 1 : 0) : REFUSED);
                    break;
                case 9:
                    due(where + " same(" + s + ", " + t + ")", x.same(s, t),
                            both ? (r.sets[s].equals(r.sets[t]) ? 1 : 0) : REFUSED);
                    break;
                case 10:
                    due(where + " has(" + s + ", " + c + ")", x.has(s, c),
                            good ? (c >= 0 && r.sets[s].get(c) ? 1 : 0) : REFUSED);
                    break;
                case 11:
                    due(where + " size(" + s + ")", x.size(s), good ? r.sets[s].cardinality() : REFUSED);
                    break;
                case 12:
                    due(where + " least(" + s + ", " + c + ")", x.least(s, c),
                            good ? r.sets[s].nextSetBit(Math.max(c, 0)) : REFUSED);
                    break;
                default: {
                    int k = random.nextInt(12) - 1;
                    due(where + " bound(" + s + ", " + k + ")", x.bound(s, k, flag), r.bound(s, k, flag));
                    break;
                }
            }
        }
        compareSet("seed " + seed + " at the end", x, r, seed % 8);
    }

    /* The calls that bring as many ranges to one SET as there can be: the last ones turn it round. */
    private static final int[] MANY = {6, 8, 16, 20};
    private static final int MANY_CALLS = CALLS - 2;

    private static CharacterSets withManyRanges() {
        CharacterSets x = new CharacterSets(3);
        for (int i = 0; i < MANY_CALLS - MANY.length - 2; i++) {
            x.range(0, 0xF9000 + 3 * i, 0xF9000 + 3 * i);
        }
        for (int k : MANY) {
            x.property(0, k, false, false);
        }
        x.named(0, 3, false, false);
        x.invert(0);
        return x;
    }

    private static Reference referenceWithManyRanges() {
        Reference r = new Reference(3);
        for (int i = 0; i < MANY_CALLS - MANY.length - 2; i++) {
            r.range(0, 0xF9000 + 3 * i, 0xF9000 + 3 * i);
        }
        for (int k : MANY) {
            r.property(0, k, false, false);
        }
        r.named(0, 3, false, false);
        r.sets[0].flip(0, LAST + 1);
        return r;
    }

    private static void manyRanges() {
        Reference r = referenceWithManyRanges();
        int ranges = r.ranges(0);
        // The two calls that are left on each object read one range.
        for (int k = 0; k <= ranges; k++) {
            CharacterSets x = withManyRanges();
            due("many ranges, low of " + k, x.bound(0, k, false), r.bound(0, k, false));
            due("many ranges, high of " + k, x.bound(0, k, true), r.bound(0, k, true));
        }
        due("many ranges, size", withManyRanges().size(0), r.sets[0].cardinality());
    }

    /** What they answer is free, but no call may throw. */
    private static void callsBeyondTheLast() {
        CharacterSets x = withManyRanges();
        for (int i = 0; i < 5000; i++) {
            int c = 0x30000 + 3 * i;
            x.range(1, c, c);
            x.join(0, 1);
            x.invert(i % 8);
            x.close(1);
            x.named(1, i % 19, i % 2 == 0, false);
            x.clear(i % 1000 == 999 ? 0 : 8);
            x.bound(1, i, true);
        }
        for (int i = 0; i < 5000; i++) {
            x.range(6, 0x30000 + 3 * i, 0x30000 + 3 * i);
            x.range(7, 0x30001 + 3 * i, 0x30001 + 3 * i);
            x.join(7, 6);
            x.invert(6);
            x.invert(6);
        }
    }
}
