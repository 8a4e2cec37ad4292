/**
 * Sets of characters, for patterns: ranges, categories, scripts, named sets and cases, put
 * together, filled up with what is of one case, turned round and compared.
 */
public final class CharacterSets {
    public static final int REFUSED = -2;

    private static final int SET_COUNT = 8;
    private static final int LAST_CHARACTER = 0x10FFFF;
    private static final int LAST_WITHOUT_UTF = 0xFF;
    private static final int LAST_ASCII = 0x7F;

    private static final int CN = 0;
    private static final int CC = 1;
    private static final int CF = 2;
    private static final int CO = 3;
    private static final int LL = 4;
    private static final int LO = 5;
    private static final int LU = 6;
    private static final int MN = 7;
    private static final int ND = 8;
    private static final int NL = 9;
    private static final int NO = 10;
    private static final int PC = 11;
    private static final int PD = 12;
    private static final int PE = 13;
    private static final int PF = 14;
    private static final int PI = 15;
    private static final int PO = 16;
    private static final int PS = 17;
    private static final int SC = 18;
    private static final int SK = 19;
    private static final int SM = 20;
    private static final int SO = 21;
    private static final int ZL = 22;
    private static final int ZP = 23;
    private static final int ZS = 24;

    /* Several CATEGORIES at once: one bit for each, by its number. */
    private static final int ALL_C = 1 << CN | 1 << CC | 1 << CF | 1 << CO;
    private static final int ALL_L = 1 << LL | 1 << LO | 1 << LU;
    private static final int ALL_M = 1 << MN;
    private static final int ALL_N = 1 << ND | 1 << NL | 1 << NO;
    private static final int ALL_P =
            1 << PC | 1 << PD | 1 << PE | 1 << PF | 1 << PI | 1 << PO | 1 << PS;
    private static final int ALL_S = 1 << SC | 1 << SK | 1 << SM | 1 << SO;
    private static final int ALL_Z = 1 << ZL | 1 << ZP | 1 << ZS;
    private static final int ALL = ALL_C | ALL_L | ALL_M | ALL_N | ALL_P | ALL_S | ALL_Z;
    private static final int GRAPHIC = ALL & ~(ALL_Z | 1 << CC | 1 << CN);

    private static final int UNKNOWN = 0;
    private static final int COMMON = 1;
    private static final int LATIN = 2;
    private static final int GREEK = 3;
    private static final int CYRILLIC = 4;
    private static final int HEBREW = 5;
    private static final int ARABIC = 6;
    private static final int HIRAGANA = 7;
    private static final int KATAKANA = 8;
    private static final int HAN = 9;
    private static final int HANGUL = 10;
    private static final int INHERITED = 11;

    /* Numbers of properties, where a rule names them. */
    private static final int PROPERTY_FIRST_LETTER = 25;
    private static final int PROPERTY_L = 26;
    private static final int PROPERTY_FIRST_SCRIPT = 32;
    private static final int PROPERTY_ALL = 44;
    private static final int PROPERTY_CASED = 45;
    private static final int PROPERTY_ALNUM = 46;
    private static final int PROPERTY_WORD = 47;
    private static final int PROPERTY_SPACE = 48;
    private static final int PROPERTY_LAST = 48;
    private static final int NO_PROPERTY = -1;

    private static final int[] LETTER_GROUPS = {ALL_C, ALL_L, ALL_M, ALL_N, ALL_P, ALL_S, ALL_Z};

    /* Numbers of NAMED SETS. */
    private static final int NAME_D = 0;
    private static final int NAME_W = 1;
    private static final int NAME_S = 2;
    private static final int NAME_H = 3;
    private static final int NAME_V = 4;
    private static final int NAME_ALPHA = 5;
    private static final int NAME_LOWER = 6;
    private static final int NAME_UPPER = 7;
    private static final int NAME_DIGIT = 8;
    private static final int NAME_ALNUM = 9;
    private static final int NAME_WORD = 10;
    private static final int NAME_SPACE = 11;
    private static final int NAME_BLANK = 12;
    private static final int NAME_CNTRL = 13;
    private static final int NAME_GRAPH = 14;
    private static final int NAME_PRINT = 15;
    private static final int NAME_PUNCT = 16;
    private static final int NAME_XDIGIT = 17;
    private static final int NAME_ASCII = 18;
    private static final int NAME_LAST = 18;

    /* Lists of ranges: the first and the last character of each. */
    private static final int[] NOTHING = {};
    private static final int[] DIGITS = {0x30, 0x39};
    private static final int[] LOWERS = {0x61, 0x7A};
    private static final int[] UPPERS = {0x41, 0x5A};
    private static final int[] ALPHAS = {0x41, 0x5A, 0x61, 0x7A};
    private static final int[] ALNUMS = {0x30, 0x39, 0x41, 0x5A, 0x61, 0x7A};
    private static final int[] WORDS = {0x30, 0x39, 0x41, 0x5A, 0x5F, 0x5F, 0x61, 0x7A};
    private static final int[] SPACES = {0x9, 0xD, 0x20, 0x20};
    private static final int[] BLANKS = {0x9, 0x9, 0x20, 0x20};
    private static final int[] CONTROLS = {0x0, 0x1F, 0x7F, 0x7F};
    private static final int[] GRAPHS = {0x21, 0x7E};
    private static final int[] PRINTS = {0x20, 0x7E};
    private static final int[] PUNCTS = {0x21, 0x2F, 0x3A, 0x40, 0x5B, 0x60, 0x7B, 0x7E};
    private static final int[] HEX_DIGITS = {0x30, 0x39, 0x41, 0x46, 0x61, 0x66};
    private static final int[] ASCII = {0x0, 0x7F};
    private static final int[] VERTICALS = {0xA, 0xD, 0x85, 0x85, 0x2028, 0x2029};
    private static final int[] HORIZONTALS = {
        0x9, 0x9, 0x20, 0x20, 0xA0, 0xA0, 0x1680, 0x1680, 0x180E, 0x180E,
        0x2000, 0x200A, 0x202F, 0x202F, 0x205F, 0x205F, 0x3000, 0x3000};

    private final boolean ucp;
    /* The greatest character that there is. */
    private final int last;
    private final Table table;
    private final CaseRings rings;
    private final Ranges[] sets;
    /* What a property or a NAMED SET brings: one row for all calls, so that no call makes any. */
    private final Ranges gathered;

    public CharacterSets(int mode) {
        boolean utf = (mode & 1) != 0;
        ucp = (mode & 2) != 0;
        last = utf ? LAST_CHARACTER : LAST_WITHOUT_UTF;
        table = new Table();
        rings = new CaseRings(utf || ucp, last);
        gathered = new Ranges();
        sets = new Ranges[SET_COUNT];
        for (int s = 0; s < SET_COUNT; s++) {
            sets[s] = new Ranges();
        }
    }

    public int clear(int s) {
        if (!isSet(s)) {
            return REFUSED;
        }
        sets[s].empty();
        return 0;
    }

    public int range(int s, int low, int high) {
        if (!isSet(s) || !isThere(low) || !isThere(high) || low > high) {
            return REFUSED;
        }
        sets[s].insert(low, high);
        return sets[s].rangeCount();
    }

    public int property(int s, int k, boolean not, boolean caseless) {
        if (!isSet(s) || k < 0 || k > PROPERTY_LAST) {
            return REFUSED;
        }
        boolean cased = caseless && (k == LL || k == LU);
        gathered.empty();
        gatherProperty(cased ? PROPERTY_CASED : k);
        return addGathered(sets[s], not);
    }

    public int named(int s, int k, boolean not, boolean caseless) {
        if (!isSet(s) || k < 0 || k > NAME_LAST) {
            return REFUSED;
        }
        boolean cased = caseless && (k == NAME_LOWER || k == NAME_UPPER);
        gathered.empty();
        gatherNamed(cased ? NAME_ALPHA : k);
        return addGathered(sets[s], not);
    }

    public int close(int s) {
        if (!isSet(s)) {
            return REFUSED;
        }
        int came = 0;
        for (int slot = 0; slot < CaseRings.SLOTS; slot++) {
            int c = CaseRings.characterAt(slot);
            if (isMissing(sets[s], c)) {
                sets[s].insert(c, c);
                came++;
            }
        }
        return came;
    }

    public int invert(int s) {
        if (!isSet(s)) {
            return REFUSED;
        }
        sets[s].complement(last);
        return sets[s].rangeCount();
    }

    public int join(int s, int t) {
        if (!isSet(s) || !isSet(t)) {
            return REFUSED;
        }
        sets[s].insertAll(sets[t]);
        return sets[s].rangeCount();
    }

    public int meets(int s, int t) {
        if (!isSet(s) || !isSet(t)) {
            return REFUSED;
        }
        return sets[s].overlaps(sets[t]) ? 1 : 0;
    }

    public int same(int s, int t) {
        if (!isSet(s) || !isSet(t)) {
            return REFUSED;
        }
        return sets[s].matches(sets[t]) ? 1 : 0;
    }

    public int has(int s, int c) {
        if (!isSet(s)) {
            return REFUSED;
        }
        return sets[s].contains(c) ? 1 : 0;
    }

    public int size(int s) {
        if (!isSet(s)) {
            return REFUSED;
        }
        return sets[s].memberCount();
    }

    public int least(int s, int c) {
        if (!isSet(s)) {
            return REFUSED;
        }
        return sets[s].firstFrom(c);
    }

    public int bound(int s, int k, boolean end) {
        if (!isSet(s) || k < 0 || k >= sets[s].rangeCount()) {
            return REFUSED;
        }
        return end ? sets[s].highOf(k) : sets[s].lowOf(k);
    }

    public int about(int c, int what) {
        if (c < 0 || c > LAST_CHARACTER || what < 0 || what > 4) {
            return REFUSED;
        }
        if (what == 0) {
            return table.categoryOf(c);
        }
        if (what == 1) {
            return table.scriptOf(c);
        }
        if (!isThere(c)) {
            return REFUSED;
        }
        if (what == 2) {
            return upperOf(c);
        }
        return what == 3 ? lowerOf(c) : rings.nextOf(c);
    }

    private static boolean isSet(int s) {
        return s >= 0 && s < SET_COUNT;
    }

    private boolean isThere(int c) {
        return c >= 0 && c <= last;
    }

    /** Whether c is not in the set, but another of its CASE is. */
    private boolean isMissing(Ranges set, int c) {
        int second = rings.nextOf(c);
        if (second == c || set.contains(c)) {
            return false;
        }
        return set.contains(second) || set.contains(rings.nextOf(second));
    }

    private int upperOf(int c) {
        if (table.categoryOf(c) != LL) {
            return c;
        }
        int upper = c;
        int kin = c;
        for (int i = 1; i < CaseRings.LONGEST; i++) {
            kin = rings.nextOf(kin);
            boolean better = upper == c || kin < upper;
            if (better && table.categoryOf(kin) == LU) {
                upper = kin;
            }
        }
        return upper;
    }

    private int lowerOf(int c) {
        if (table.categoryOf(c) != LU) {
            return c;
        }
        int kin = c;
        for (int i = 1; i < CaseRings.LONGEST; i++) {
            kin = rings.nextOf(kin);
            boolean sideForm = kin == 0x17F || kin == 0xB5 || kin == 0x3C2;
            if (!sideForm && table.categoryOf(kin) == LL) {
                return kin;
            }
        }
        return c;
    }

    private int addGathered(Ranges set, boolean not) {
        if (not) {
            gathered.complement(last);
        }
        set.insertAll(gathered);
        return set.rangeCount();
    }

    private void gatherProperty(int k) {
        if (k >= PROPERTY_FIRST_SCRIPT && k < PROPERTY_ALL) {
            gatherScript(k - PROPERTY_FIRST_SCRIPT);
            return;
        }
        gatherCategories(categoriesOf(k), last);
        if (k == PROPERTY_WORD) {
            gather(0x5F, 0x5F);
        }
        if (k == PROPERTY_SPACE) {
            gather(0x9, 0xD);
            gather(0x85, 0x85);
        }
    }

    private static int categoriesOf(int k) {
        if (k >= 0 && k < PROPERTY_FIRST_LETTER) {
            return 1 << k;
        }
        if (k >= PROPERTY_FIRST_LETTER && k < PROPERTY_FIRST_SCRIPT) {
            return LETTER_GROUPS[k - PROPERTY_FIRST_LETTER];
        }
        switch (k) {
            case PROPERTY_ALL:
                return ALL;
            case PROPERTY_CASED:
                return 1 << LU | 1 << LL;
            case PROPERTY_ALNUM:
            case PROPERTY_WORD:
                return ALL_L | ALL_N;
            case PROPERTY_SPACE:
                return ALL_Z;
            default:
                return 0;
        }
    }

    private void gatherNamed(int k) {
        if (!ucp) {
            gatherList(listOf(k));
            return;
        }
        int asProperty = propertyOf(k);
        if (asProperty != NO_PROPERTY) {
            gatherProperty(asProperty);
            return;
        }
        switch (k) {
            case NAME_BLANK:
                gatherList(HORIZONTALS);
                break;
            case NAME_GRAPH:
                gatherCategories(GRAPHIC, last);
                break;
            case NAME_PRINT:
                gatherCategories(GRAPHIC | 1 << ZS, last);
                break;
            case NAME_PUNCT:
                gatherCategories(ALL_P, last);
                gatherCategories(ALL_S, LAST_ASCII);
                break;
            default:
                gatherList(listOf(k));
                break;
        }
    }

    /** The property that a NAMED SET is with UCP. */
    private static int propertyOf(int name) {
        switch (name) {
            case NAME_D:
            case NAME_DIGIT:
                return ND;
            case NAME_W:
            case NAME_WORD:
                return PROPERTY_WORD;
            case NAME_S:
            case NAME_SPACE:
                return PROPERTY_SPACE;
            case NAME_ALPHA:
                return PROPERTY_L;
            case NAME_LOWER:
                return LL;
            case NAME_UPPER:
                return LU;
            case NAME_ALNUM:
                return PROPERTY_ALNUM;
            case NAME_CNTRL:
                return CC;
            default:
                return NO_PROPERTY;
        }
    }

    /** The ranges of a NAMED SET without UCP. */
    private static int[] listOf(int name) {
        switch (name) {
            case NAME_D:
            case NAME_DIGIT:
                return DIGITS;
            case NAME_W:
            case NAME_WORD:
                return WORDS;
            case NAME_S:
            case NAME_SPACE:
                return SPACES;
            case NAME_H:
                return HORIZONTALS;
            case NAME_V:
                return VERTICALS;
            case NAME_ALPHA:
                return ALPHAS;
            case NAME_LOWER:
                return LOWERS;
            case NAME_UPPER:
                return UPPERS;
            case NAME_ALNUM:
                return ALNUMS;
            case NAME_BLANK:
                return BLANKS;
            case NAME_CNTRL:
                return CONTROLS;
            case NAME_GRAPH:
                return GRAPHS;
            case NAME_PRINT:
                return PRINTS;
            case NAME_PUNCT:
                return PUNCTS;
            case NAME_XDIGIT:
                return HEX_DIGITS;
            case NAME_ASCII:
                return ASCII;
            default:
                return NOTHING;
        }
    }

    private void gatherList(int[] list) {
        for (int i = 0; i + 1 < list.length; i += 2) {
            gather(list[i], list[i + 1]);
        }
    }

    /** Gathers the characters up to the given end that are of one of the categories. */
    private void gatherCategories(int categories, int end) {
        for (int i = 0; i < table.pieceCount(); i++) {
            if ((categories >> table.pieceCategory(i) & 1) != 0) {
                gather(table.pieceLow(i), Math.min(table.pieceHigh(i), end));
            }
        }
    }

    private void gatherScript(int script) {
        for (int i = 0; i < table.pieceCount(); i++) {
            if (table.pieceScript(i) == script) {
                gather(table.pieceLow(i), table.pieceHigh(i));
            }
        }
    }

    private void gather(int low, int high) {
        int end = Math.min(high, last);
        if (low <= end) {
            gathered.insert(low, end);
        }
    }

    /** A set of characters as its ranges. */
    private static final class Ranges {
        /*
         * Two edges a range. The calls of range, at most 512, bring at most 1024 edges; all other
         * edges lie on the table's, the lists' or the CASES' own, and those are fewer than 700.
         * What goes beyond the row comes after the 512th call and is left out. A power of two,
         * since the search halves it.
         */
        private static final int EDGE_LIMIT = 2048;

        /* By turns the first character of a range and the first one behind it, ascending. */
        private final int[] edges;
        private int count;

        Ranges() {
            edges = new int[EDGE_LIMIT];
            count = 0;
        }

        void empty() {
            count = 0;
        }

        int rangeCount() {
            return count / 2;
        }

        int lowOf(int range) {
            return edges[2 * range];
        }

        int highOf(int range) {
            return edges[2 * range + 1] - 1;
        }

        int memberCount() {
            int members = 0;
            for (int i = 0; i + 1 < count; i += 2) {
                members += edges[i + 1] - edges[i];
            }
            return members;
        }

        boolean contains(int c) {
            return edgesUpTo(c) % 2 == 1;
        }

        int firstFrom(int c) {
            int passed = edgesUpTo(c);
            if (passed % 2 == 1) {
                return c;
            }
            return passed < count ? edges[passed] : -1;
        }

        boolean matches(Ranges other) {
            if (count != other.count) {
                return false;
            }
            for (int i = 0; i < count; i++) {
                if (edges[i] != other.edges[i]) {
                    return false;
                }
            }
            return true;
        }

        boolean overlaps(Ranges other) {
            for (int i = 0; i < rangeCount(); i++) {
                int met = other.firstFrom(lowOf(i));
                if (met >= 0 && met <= highOf(i)) {
                    return true;
                }
            }
            return false;
        }

        void insert(int low, int high) {
            int from = edgesUpTo(low - 1);
            int to = edgesUpTo(high + 1);
            // An odd number of edges passed: the new range runs into one that is there already.
            boolean newLow = from % 2 == 0;
            boolean newHigh = to % 2 == 0;
            int kept = from + (newLow ? 1 : 0) + (newHigh ? 1 : 0);
            int newCount = kept + count - to;
            if (newCount > edges.length) {
                return;
            }
            System.arraycopy(edges, to, edges, kept, count - to);
            if (newLow) {
                edges[from] = low;
            }
            if (newHigh) {
                edges[kept - 1] = high + 1;
            }
            count = newCount;
        }

        void insertAll(Ranges other) {
            if (other == this) {
                return;
            }
            for (int i = 0; i < other.rangeCount(); i++) {
                insert(other.lowOf(i), other.highOf(i));
            }
        }

        /** Turns the set round: each edge stays one, but for those at 0 and behind the last. */
        void complement(int last) {
            if (count + 2 > edges.length) {
                return;
            }
            if (count > 0 && edges[0] == 0) {
                System.arraycopy(edges, 1, edges, 0, count - 1);
                count--;
            } else {
                System.arraycopy(edges, 0, edges, 1, count);
                edges[0] = 0;
                count++;
            }
            if (count > 0 && edges[count - 1] == last + 1) {
                count--;
            } else {
                edges[count] = last + 1;
                count++;
            }
        }

        /** How many edges are c or less. */
        private int edgesUpTo(int c) {
            int passed = 0;
            for (int step = EDGE_LIMIT; step > 0; step /= 2) {
                int tried = passed + step;
                if (tried <= count && edges[tried - 1] <= c) {
                    passed = tried;
                }
            }
            return passed;
        }
    }

    /** The document's table: all characters in pieces of one CATEGORY and one SCRIPT each. */
    private static final class Table {
        /* In place of a CATEGORY: Lu and Ll by turns, Lu first. */
        private static final int BY_TURNS = 25;
        /* Above the rows, the gaps between them and the 124 characters that go by turns. */
        private static final int PIECE_LIMIT = 512;

        /* First, last, CATEGORY; ascending. What stands in no row is Cn. */
        private static final int[] CATEGORY_ROWS = {
            0x0, 0x1F, CC, 0x20, 0x20, ZS, 0x21, 0x23, PO, 0x24, 0x24, SC,
            0x25, 0x27, PO, 0x28, 0x28, PS, 0x29, 0x29, PE, 0x2A, 0x2A, PO,
            0x2B, 0x2B, SM, 0x2C, 0x2C, PO, 0x2D, 0x2D, PD, 0x2E, 0x2F, PO,
            0x30, 0x39, ND, 0x3A, 0x3B, PO, 0x3C, 0x3E, SM, 0x3F, 0x40, PO,
            0x41, 0x5A, LU, 0x5B, 0x5B, PS, 0x5C, 0x5C, PO, 0x5D, 0x5D, PE,
            0x5E, 0x5E, SK, 0x5F, 0x5F, PC, 0x60, 0x60, SK, 0x61, 0x7A, LL,
            0x7B, 0x7B, PS, 0x7C, 0x7C, SM, 0x7D, 0x7D, PE, 0x7E, 0x7E, SM,
            0x7F, 0x9F, CC, 0xA0, 0xA0, ZS, 0xA1, 0xA1, PO, 0xA2, 0xA5, SC,
            0xA6, 0xA6, SO, 0xA7, 0xA7, PO, 0xA8, 0xA8, SK, 0xA9, 0xA9, SO,
            0xAA, 0xAA, LO, 0xAB, 0xAB, PI, 0xAC, 0xAC, SM, 0xAD, 0xAD, CF,
            0xAE, 0xAE, SO, 0xAF, 0xAF, SK, 0xB0, 0xB0, SO, 0xB1, 0xB1, SM,
            0xB2, 0xB3, NO, 0xB4, 0xB4, SK, 0xB5, 0xB5, LL, 0xB6, 0xB7, PO,
            0xB8, 0xB8, SK, 0xB9, 0xB9, NO, 0xBA, 0xBA, LO, 0xBB, 0xBB, PF,
            0xBC, 0xBE, NO, 0xBF, 0xBF, PO, 0xC0, 0xD6, LU, 0xD7, 0xD7, SM,
            0xD8, 0xDE, LU, 0xDF, 0xF6, LL, 0xF7, 0xF7, SM, 0xF8, 0xFF, LL,
            0x100, 0x137, BY_TURNS, 0x138, 0x138, LL, 0x139, 0x148, BY_TURNS,
            0x149, 0x149, LL, 0x14A, 0x177, BY_TURNS, 0x178, 0x178, LU,
            0x179, 0x17E, BY_TURNS, 0x17F, 0x17F, LL,
            0x300, 0x36F, MN, 0x391, 0x3A1, LU, 0x3A3, 0x3A9, LU, 0x3B1, 0x3C9, LL,
            0x400, 0x42F, LU, 0x430, 0x45F, LL, 0x5D0, 0x5EA, LO,
            0x620, 0x63F, LO, 0x641, 0x64A, LO, 0x660, 0x669, ND,
            0x2000, 0x200A, ZS, 0x200B, 0x200F, CF, 0x2010, 0x2015, PD,
            0x2016, 0x2017, PO, 0x2018, 0x2018, PI, 0x2019, 0x2019, PF,
            0x201A, 0x201A, PS, 0x201B, 0x201C, PI, 0x201D, 0x201D, PF,
            0x201E, 0x201E, PS, 0x201F, 0x201F, PI, 0x2020, 0x2027, PO,
            0x2028, 0x2028, ZL, 0x2029, 0x2029, ZP, 0x202F, 0x202F, ZS,
            0x205F, 0x205F, ZS, 0x20A0, 0x20BF, SC, 0x212A, 0x212B, LU,
            0x2160, 0x216F, NL, 0x2190, 0x2194, SM, 0x3000, 0x3000, ZS,
            0x3041, 0x3096, LO, 0x30A1, 0x30FA, LO, 0x4E00, 0x9FFF, LO,
            0xAC00, 0xD7A3, LO, 0xE000, 0xF8FF, CO, 0xFE0F, 0xFE0F, MN,
            0xFEFF, 0xFEFF, CF, 0x1F300, 0x1F64F, SO};

        /* First, last, SCRIPT, for what is not Unknown; what stands in no row is Common. */
        private static final int[] SCRIPT_ROWS = {
            0xAA, 0xAA, LATIN, 0xBA, 0xBA, LATIN, 0x212A, 0x212B, LATIN,
            0x391, 0x3C9, GREEK, 0x400, 0x45F, CYRILLIC, 0x5D0, 0x5EA, HEBREW,
            0x620, 0x64A, ARABIC, 0x3041, 0x3096, HIRAGANA, 0x30A1, 0x30FA, KATAKANA,
            0x4E00, 0x9FFF, HAN, 0xAC00, 0xD7A3, HANGUL,
            0x300, 0x36F, INHERITED, 0xFE0F, 0xFE0F, INHERITED};

        private final int[] lows;
        private final int[] categories;
        private final int[] scripts;
        private int count;

        Table() {
            lows = new int[PIECE_LIMIT];
            categories = new int[PIECE_LIMIT];
            scripts = new int[PIECE_LIMIT];
            count = 0;
            int next = 0;
            for (int i = 0; i + 2 < CATEGORY_ROWS.length; i += 3) {
                int low = CATEGORY_ROWS[i];
                if (next < low) {
                    addPiece(next, CN);
                }
                next = CATEGORY_ROWS[i + 1] + 1;
                addRow(low, next, CATEGORY_ROWS[i + 2]);
            }
            addPiece(next, CN);
        }

        int pieceCount() {
            return count;
        }

        int pieceLow(int piece) {
            return lows[piece];
        }

        int pieceHigh(int piece) {
            return piece + 1 < count ? lows[piece + 1] - 1 : LAST_CHARACTER;
        }

        int pieceCategory(int piece) {
            return categories[piece];
        }

        int pieceScript(int piece) {
            return scripts[piece];
        }

        int categoryOf(int c) {
            return categories[pieceOf(c)];
        }

        int scriptOf(int c) {
            return scripts[pieceOf(c)];
        }

        private int pieceOf(int c) {
            int piece = 0;
            for (int i = 1; i < count && lows[i] <= c; i++) {
                piece = i;
            }
            return piece;
        }

        private void addRow(int low, int behind, int category) {
            if (category != BY_TURNS) {
                addPiece(low, category);
                return;
            }
            for (int c = low; c < behind; c++) {
                addPiece(c, (c - low) % 2 == 0 ? LU : LL);
            }
        }

        private void addPiece(int low, int category) {
            if (count >= PIECE_LIMIT) {
                return;
            }
            lows[count] = low;
            categories[count] = category;
            scripts[count] = findScript(low, category);
            count++;
        }

        private static int findScript(int c, int category) {
            if (category == CN || category == CO) {
                return UNKNOWN;
            }
            if ((category == LU || category == LL) && c < 0x180) {
                return c == 0xB5 ? COMMON : LATIN;
            }
            for (int i = 0; i + 2 < SCRIPT_ROWS.length; i += 3) {
                if (c >= SCRIPT_ROWS[i] && c <= SCRIPT_ROWS[i + 1]) {
                    return SCRIPT_ROWS[i + 2];
                }
            }
            return COMMON;
        }
    }

    /** The CASES: for each character the next one of its CASE that is there, the last to the first. */
    private static final class CaseRings {
        /* The most characters that one CASE has. */
        static final int LONGEST = 3;
        /* All that has a CASE lies below this, but for 212A and 212B, which follow as two slots. */
        private static final int LOW_SLOTS = 0x460;
        private static final int FIRST_SIGN = 0x212A;
        private static final int LAST_SIGN = 0x212B;
        static final int SLOTS = LOW_SLOTS + 2;

        /* First x, last x, how far behind x its other is, step from x to x. A-Z stands first. */
        private static final int[] PAIR_ROWS = {
            0x41, 0x5A, 0x20, 1,
            0xC0, 0xD6, 0x20, 1,
            0xD8, 0xDE, 0x20, 1,
            0x391, 0x3A1, 0x20, 1,
            0x3A3, 0x3A9, 0x20, 1,
            0x410, 0x42F, 0x20, 1,
            0x400, 0x40F, 0x50, 1,
            0x100, 0x12E, 1, 2,
            0x132, 0x136, 1, 2,
            0x139, 0x147, 1, 2,
            0x14A, 0x176, 1, 2,
            0x179, 0x17D, 1, 2,
            0xFF, 0xFF, 0x79, 1};
        private static final int PAIR_ROW_LENGTH = 4;

        /* Three of one CASE, ascending; two of them may stand in PAIR_ROWS, too. */
        private static final int[] TRIPLES = {
            0x53, 0x73, 0x17F,
            0x4B, 0x6B, 0x212A,
            0xC5, 0xE5, 0x212B,
            0xB5, 0x39C, 0x3BC,
            0x3A3, 0x3C2, 0x3C3};

        private final int last;
        private final int[] next;

        CaseRings(boolean beyondAscii, int last) {
            this.last = last;
            next = new int[SLOTS];
            for (int slot = 0; slot < SLOTS; slot++) {
                next[slot] = characterAt(slot);
            }
            int end = beyondAscii ? PAIR_ROWS.length : PAIR_ROW_LENGTH;
            for (int row = 0; row + 3 < end; row += PAIR_ROW_LENGTH) {
                linkPairs(row);
            }
            for (int i = 0; i + 2 < TRIPLES.length; i += 3) {
                linkThree(TRIPLES[i], TRIPLES[i + 1], TRIPLES[i + 2]);
            }
        }

        static int characterAt(int slot) {
            return slot < LOW_SLOTS ? slot : FIRST_SIGN + slot - LOW_SLOTS;
        }

        int nextOf(int c) {
            int slot = slotOf(c);
            return slot < 0 ? c : next[slot];
        }

        private static int slotOf(int c) {
            if (c >= 0 && c < LOW_SLOTS) {
                return c;
            }
            return c >= FIRST_SIGN && c <= LAST_SIGN ? LOW_SLOTS + c - FIRST_SIGN : -1;
        }

        private void linkPairs(int row) {
            int distance = PAIR_ROWS[row + 2];
            int step = PAIR_ROWS[row + 3] == 2 ? 2 : 1;
            for (int x = PAIR_ROWS[row]; x <= PAIR_ROWS[row + 1]; x += step) {
                if (x + distance <= last) {
                    point(x, x + distance);
                    point(x + distance, x);
                }
            }
        }

        /* Without UTF the greatest of each three is not there, and PAIR_ROWS says what is left. */
        private void linkThree(int a, int b, int c) {
            if (c <= last) {
                point(a, b);
                point(b, c);
                point(c, a);
            }
        }

        private void point(int from, int to) {
            int slot = slotOf(from);
            if (slot >= 0) {
                next[slot] = to;
            }
        }
    }
}
