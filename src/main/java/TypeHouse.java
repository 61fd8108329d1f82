import java.util.Arrays;

/** A house that sets type: macros, paragraphs, boxes, pages, and the bytes of a file for printers. */
public final class TypeHouse {
    // A token is an int: category and character, or one of these with a character, a name or a number.
    private static final int ACTIVE = 1 << 16;
    private static final int NAME = 2 << 16;
    private static final int PARAMETER = 3 << 16;
    private static final int MARK = 1 << 20;
    private static final int SPACE = 10 << 8 | ' ';
    private static final int OTHER = 12 << 8;

    // A meaning is an int likewise; 0 is none.
    private static final int PRIMITIVE = 1 << 16;
    private static final int MACRO = 2 << 16;
    private static final int CHARACTER = 3 << 16;
    private static final int NUMBER = 4 << 16;
    private static final int FONT = 5 << 16;
    private static final int LOW = 0xffff;

    // The primitives' names in the order of their numbers: what belongs together is a range. _ is a space.
    private static final String EXPANDED_NAMES = "expandafter noexpand csname string number romannumeral the ";
    private static final String CONDITION_NAMES =
        "if ifcat ifx ifnum ifdim ifodd ifvmode ifhmode ifvoid iftrue iffalse ifcase else or fi ";
    private static final String PLAIN_NAMES = "relax endcsname begingroup endgroup end par ";
    private static final String HORIZONTAL_NAMES = "char hskip hfil hfill vrule indent noindent - _ ";
    private static final String VERTICAL_NAMES = "vskip vfil vfill hrule ";
    private static final String BOX_NAMES = "kern penalty raise lower moveleft moveright hbox vbox box copy ";
    private static final String SETTING_NAMES =
        "setbox def edef gdef xdef let chardef font catcode advance multiply divide count dimen skip ";
    private static final String TOLERANCE_NAMES = "pretolerance tolerance ";
    private static final String PENALTY_NAMES =
        "linepenalty hyphenpenalty exhyphenpenalty clubpenalty widowpenalty brokenpenalty interlinepenalty ";
    private static final String DEMERIT_NAMES =
        "adjdemerits doublehyphendemerits finalhyphendemerits looseness ";
    private static final String LENGTH_NAMES = "hsize vsize parindent lineskiplimit maxdepth emergencystretch ";
    private static final String GLUE_NAMES =
        "parskip baselineskip lineskip topskip leftskip rightskip parfillskip ";
    private static final String LAST_NAMES = "wd ht dp global ";

    private static final int EXPANDAFTER = 0;
    private static final int NOEXPAND = 1;
    private static final int CSNAME = 2;
    private static final int STRING = 3;
    private static final int NUMBER_OF = 4;
    private static final int ROMAN = 5;
    private static final int THE = 6;
    private static final int IF = 7;
    private static final int IFCAT = 8;
    private static final int IFX = 9;
    private static final int IFNUM = 10;
    private static final int IFDIM = 11;
    private static final int IFODD = 12;
    private static final int IFVMODE = 13;
    private static final int IFHMODE = 14;
    private static final int IFVOID = 15;
    private static final int IFTRUE = 16;
    private static final int IFCASE = 18;
    private static final int ELSE = 19;
    private static final int OR = 20;
    private static final int FI = 21;
    private static final int RELAX = 22;
    private static final int ENDCSNAME = 23;
    private static final int BEGINGROUP = 24;
    private static final int ENDGROUP = 25;
    private static final int END = 26;
    private static final int PAR = 27;
    private static final int CHAR = 28;
    private static final int HSKIP = 29;
    private static final int HFIL = 30;
    private static final int HFILL = 31;
    private static final int VRULE = 32;
    private static final int INDENT = 33;
    private static final int NOINDENT = 34;
    private static final int HYPHEN_NAME = 35;
    private static final int SPACE_NAME = 36;
    private static final int VSKIP = 37;
    private static final int VFIL = 38;
    private static final int VFILL = 39;
    private static final int HRULE = 40;
    private static final int KERN_NAME = 41;
    private static final int PENALTY_NAME = 42;
    private static final int RAISE = 43;
    private static final int LOWER = 44;
    private static final int MOVELEFT = 45;
    private static final int MOVERIGHT = 46;
    private static final int HBOX = 47;
    private static final int VBOX = 48;
    private static final int BOX_NAME = 49;
    private static final int COPY = 50;
    private static final int SETBOX = 51;
    private static final int DEF = 52;
    private static final int EDEF = 53;
    private static final int GDEF = 54;
    private static final int XDEF = 55;
    private static final int LET = 56;
    private static final int CHARDEF = 57;
    private static final int FONT_NAME = 58;
    private static final int CATCODE = 59;
    private static final int ADVANCE = 60;
    private static final int MULTIPLY = 61;
    private static final int DIVIDE = 62;
    private static final int COUNT = 63;
    private static final int DIMEN = 64;
    private static final int SKIP = 65;
    private static final int PRETOLERANCE = 66;
    private static final int TOLERANCE = 67;
    private static final int LINEPENALTY = 68;
    private static final int HYPHENPENALTY = 69;
    private static final int EXHYPHENPENALTY = 70;
    private static final int CLUBPENALTY = 71;
    private static final int WIDOWPENALTY = 72;
    private static final int BROKENPENALTY = 73;
    private static final int INTERLINEPENALTY = 74;
    private static final int ADJDEMERITS = 75;
    private static final int DOUBLEHYPHENDEMERITS = 76;
    private static final int FINALHYPHENDEMERITS = 77;
    private static final int LOOSENESS = 78;
    private static final int HSIZE = 79;
    private static final int VSIZE = 80;
    private static final int PARINDENT = 81;
    private static final int LINESKIPLIMIT = 82;
    private static final int MAXDEPTH = 83;
    private static final int EMERGENCYSTRETCH = 84;
    private static final int PARSKIP = 85;
    private static final int BASELINESKIP = 86;
    private static final int LINESKIP = 87;
    private static final int TOPSKIP = 88;
    private static final int LEFTSKIP = 89;
    private static final int RIGHTSKIP = 90;
    private static final int PARFILLSKIP = 91;
    private static final int WD = 92;
    private static final int HT = 93;
    private static final int DP = 94;
    private static final int GLOBAL = 95;
    private static final int PRIMITIVE_COUNT = 96;

    // All that a group brings back is one row of variables; glue takes four: width, stretch, order, shrink.
    private static final int NAMES = PRIMITIVE_COUNT + 1000;
    private static final int NAME_ROOM = 40;
    private static final int ACTIVES = NAMES;
    private static final int COUNTS = ACTIVES + 256;
    private static final int NAMED_COUNTS = COUNTS + 256 - PRETOLERANCE;
    private static final int DIMENS = COUNTS + 256 + 13;
    private static final int NAMED_DIMENS = DIMENS + 256 - HSIZE;
    private static final int SKIPS = DIMENS + 256 + 6;
    private static final int CATEGORIES = SKIPS + 4 * (256 + 7);
    private static final int BOXES = CATEGORIES + 256;
    private static final int FONT_NOW = BOXES + 256;
    private static final int VARIABLES = FONT_NOW + 1;
    private static final int VARIABLE_BITS = 12;

    // What a primitive stands for as a quantity.
    private static final int NO_QUANTITY = 0;
    private static final int COUNTER = 1;
    private static final int LENGTH = 2;
    private static final int GLUE_QUANTITY = 3;
    private static final int BOX_SIZE = 4;

    // Items have five ints: the kind and four more.
    private static final int ITEM = 5;
    private static final int LEAF = 0; // font and character, width, height, depth
    private static final int RULE = 1; // -, width, height, depth
    private static final int BOX = 2; // the box, its shift
    private static final int GLUE = 3; // width, stretch, order, shrink
    private static final int KERN = 4; // width, 1 if explicit
    private static final int PENALTY = 5; // the penalty
    private static final int HYPHEN = 6; // font and character before the break or -1, how many are replaced, width

    private static final int OUTER = 0;
    private static final int INNER = 1;
    private static final int PARAGRAPH = 2;
    private static final int LINE = 3;

    private static final int BRACES = 1;
    private static final int WORDS = 2;
    private static final int BOXED = 3;

    private static final int GREATEST = 1073741823;
    private static final int RUNNING = -2147483647 - 1;
    private static final int FORCED = -10000;
    private static final int FORBIDDEN = 10000;
    private static final int PARAGRAPH_ITEMS = 2000;
    private static final int PACKED_ITEMS = 20000;
    private static final int OPEN_ITEMS = 20000;
    private static final int PAGE_ITEMS = 10000;
    private static final int MOST_BOXES = 3000;
    private static final int MOST_MARKS = 3000;
    private static final int MOST_NODES = 8000;
    private static final int MOST_BYTES = 200000;
    private static final int FAR = 1000000;

    private final byte[] tape = new byte[65536];
    private int tapeSize;
    private int ticks = 100000;
    private final FontFile[] slots = new FontFile[16];
    private FontFile spare = new FontFile();
    private final Patterns patterns = new Patterns();
    private final State state = new State();
    private final DviFile file;
    private final Setter setter;

    public TypeHouse() {
        for (int i = 0; i < 16; i++) {
            slots[i] = new FontFile();
        }
        Fonts fonts = new Fonts(slots);
        Boxes boxes = new Boxes(state, fonts);
        file = new DviFile(state, fonts, boxes);
        setter = new Setter(state, patterns, new Expander(state, new Reader(state), fonts, boxes),
            new Breaker(state, boxes), new Pages(state, boxes, file));
    }

    public void feed(int a, int b, int c, int d, int e) throws UnsupportedOperationException {
        if (tapeSize + 20 > tape.length) {
            throw new UnsupportedOperationException();
        }
        wind(a);
        wind(b);
        wind(c);
        wind(d);
        wind(e);
    }

    private void wind(int word) {
        for (int shift = 24; shift >= 0; shift -= 8) {
            tape[tapeSize] = (byte) (word >> shift);
            tapeSize++;
        }
    }

    public void fuel(int ticks) throws IllegalArgumentException {
        if (ticks < 0 || ticks > 200000) {
            throw new IllegalArgumentException();
        }
        this.ticks = ticks;
    }

    public int end(int what, int n) throws IllegalArgumentException {
        checkEnd(what, n);
        tapeSize = 0;
        if (what < 16) {
            return loadFont(what, n);
        }
        if (what < 18) {
            return patterns.readText(tape, n, what == 17);
        }
        state.begin(ticks);
        file.begin();
        setter.begin(tape, n);
        int answer = 0;
        try {
            setter.work();
        } catch (IllegalStateException e) {
            answer = 100000 * state.fault + setter.lines();
        }
        state.unwind();
        file.finish();
        return answer;
    }

    private void checkEnd(int what, int n) {
        if (what < 0 || what > 18 || n < 0 || n > tapeSize) {
            throw new IllegalArgumentException();
        }
    }

    private int loadFont(int slot, int n) {
        int fault = spare.load(tape, n);
        if (fault == 0) {
            FontFile former = slots[slot];
            slots[slot] = spare;
            spare = former;
        }
        return fault;
    }

    public int clear(boolean words) {
        return words ? patterns.dropTold() : patterns.dropPatterns();
    }

    public int size() {
        return file.size;
    }

    public int out(int i) throws IndexOutOfBoundsException {
        if (i < 0 || i >= file.size) {
            throw new IndexOutOfBoundsException();
        }
        return file.bytes[i] & 255;
    }

    public int about(int what) throws IndexOutOfBoundsException {
        if (what < 0 || what > 7) {
            throw new IndexOutOfBoundsException();
        }
        return state.told[what];
    }

    public int count(int k) throws IndexOutOfBoundsException {
        if (k < 0 || k > 255) {
            throw new IndexOutOfBoundsException();
        }
        return state.value[COUNTS + k];
    }

    /** How bad it is to stretch or shrink by t what can do so by s. */
    private static int badness(long t, long s) {
        if (t == 0) {
            return 0;
        }
        if (s <= 0) {
            return 10000;
        }
        long r = t;
        if (t <= 7230584) {
            r = 297 * t / s;
        } else if (s >= 1663497) {
            r = t / (s / 297);
        }
        return r > 1290 ? 10000 : (int) ((r * r * r + 131072) / 262144);
    }

    /** Part of the whole, 0 .. whole, times the excess by the whole, to the nearest, halves away from 0. */
    private static long share(long part, long excess, long whole) {
        if (whole <= 0) {
            return 0;
        }
        long far = excess < 0 ? -excess : excess;
        long times = part * (far / whole);
        long rest = far % whole;
        long product = 0;
        long left = 0;
        if (part < 1L << 31 && rest < 1L << 31) {
            product = part * rest / whole;
            left = part * rest % whole;
        } else {
            // The product needs more than 64 bits, so it is divided while it is made.
            for (int bit = 62; bit >= 0; bit--) {
                left = 2 * left + ((rest >> bit & 1) == 1 ? part : 0);
                product = 2 * product + left / whole;
                left = left % whole;
            }
        }
        long nearest = times + product + (2 * left >= whole ? 1 : 0);
        return excess < 0 ? -nearest : nearest;
    }

    private static void putItem(int[] row, int i, int kind, int a, int b, int c, int d) {
        int at = i * ITEM;
        row[at] = kind;
        row[at + 1] = a;
        row[at + 2] = b;
        row[at + 3] = c;
        row[at + 4] = d;
    }

    private static boolean isSize(long v) {
        return v >= -GREATEST && v <= GREATEST;
    }

    private static int within(int v, int least, int most) {
        return v < least ? least : v > most ? most : v;
    }

    /** The variables with their groups, the names, and what is told about a run. */
    private static final class State {
        private final int[] value = new int[VARIABLES];
        private final int[] level = new int[VARIABLES];
        private int[] saves = new int[4096];
        private int saved;
        private int groups;
        private final int[] groupKind = new int[101];
        private final int[] groupBase = new int[101];
        private final byte[] letters = new byte[(NAMES + 1) * NAME_ROOM];
        private final int[] lengths = new int[NAMES];
        private final int[] hashes = new int[NAMES];
        private final int[] heads = new int[1024];
        private final int[] links = new int[NAMES];
        private int names;
        private final int[] told = new int[8];
        private int fault;
        private int fuel;
        private int looks;

        private State() {
            Arrays.fill(heads, -1);
            learn(EXPANDED_NAMES);
            learn(CONDITION_NAMES);
            learn(PLAIN_NAMES);
            learn(HORIZONTAL_NAMES);
            learn(VERTICAL_NAMES);
            learn(BOX_NAMES);
            learn(SETTING_NAMES);
            learn(TOLERANCE_NAMES);
            learn(PENALTY_NAMES);
            learn(DEMERIT_NAMES);
            learn(LENGTH_NAMES);
            learn(GLUE_NAMES);
            learn(LAST_NAMES);
        }

        private void learn(String text) {
            int n = 0;
            for (int i = 0; i < text.length(); i++) {
                char c = text.charAt(i);
                if (c == ' ') {
                    intern(n);
                    n = 0;
                } else {
                    letters[names * NAME_ROOM + n] = (byte) (c == '_' ? ' ' : c);
                    n++;
                }
            }
        }

        /** The number of the name that is spelled behind the last one; -1 if there are too many names. */
        private int intern(int n) {
            int from = names * NAME_ROOM;
            int h = n;
            for (int i = 0; i < n; i++) {
                h = 31 * h + letters[from + i];
            }
            h &= 1023;
            int id = heads[h];
            for (int guard = 0; guard <= NAMES && id >= 0; guard++) {
                int i = lengths[id] == n ? 0 : n + 1;
                while (i < n && letters[id * NAME_ROOM + i] == letters[from + i]) {
                    i++;
                }
                if (i == n) {
                    return id;
                }
                id = links[id];
            }
            if (names >= NAMES) {
                return -1;
            }
            lengths[names] = n;
            hashes[names] = h;
            links[names] = heads[h];
            heads[h] = names;
            names++;
            return names - 1;
        }

        private void begin(int ticks) {
            for (int id = names - 1; id >= PRIMITIVE_COUNT; id--) {
                heads[hashes[id]] = links[id];
            }
            names = PRIMITIVE_COUNT;
            Arrays.fill(value, 0);
            Arrays.fill(level, 0);
            Arrays.fill(told, 0);
            saved = 0;
            groups = 0;
            fault = 0;
            looks = 0;
            fuel = ticks;
            for (int p = 0; p < PRIMITIVE_COUNT; p++) {
                value[p] = PRIMITIVE | p;
            }
            setCategories();
            setQuantities();
        }

        private void setCategories() {
            Arrays.fill(value, CATEGORIES, CATEGORIES + 256, 12);
            for (int i = 0; i < 26; i++) {
                value[CATEGORIES + 'a' + i] = 11;
                value[CATEGORIES + 'A' + i] = 11;
            }
            value[CATEGORIES + '\\'] = 0;
            value[CATEGORIES + '{'] = 1;
            value[CATEGORIES + '}'] = 2;
            value[CATEGORIES + '$'] = 3;
            value[CATEGORIES + '&'] = 4;
            value[CATEGORIES + 13] = 5;
            value[CATEGORIES + '#'] = 6;
            value[CATEGORIES + '^'] = 7;
            value[CATEGORIES + '_'] = 8;
            value[CATEGORIES] = 9;
            value[CATEGORIES + ' '] = 10;
            value[CATEGORIES + 9] = 10;
            value[CATEGORIES + '~'] = 13;
            value[CATEGORIES + '%'] = 14;
            value[CATEGORIES + 127] = 15;
        }

        private void setQuantities() {
            value[NAMED_COUNTS + PRETOLERANCE] = 100;
            value[NAMED_COUNTS + TOLERANCE] = 200;
            value[NAMED_COUNTS + LINEPENALTY] = 10;
            value[NAMED_COUNTS + HYPHENPENALTY] = 50;
            value[NAMED_COUNTS + EXHYPHENPENALTY] = 50;
            value[NAMED_COUNTS + CLUBPENALTY] = 150;
            value[NAMED_COUNTS + WIDOWPENALTY] = 150;
            value[NAMED_COUNTS + BROKENPENALTY] = 100;
            value[NAMED_COUNTS + ADJDEMERITS] = 10000;
            value[NAMED_COUNTS + DOUBLEHYPHENDEMERITS] = 10000;
            value[NAMED_COUNTS + FINALHYPHENDEMERITS] = 5000;
            value[NAMED_DIMENS + HSIZE] = 26214400;
            value[NAMED_DIMENS + VSIZE] = 39321600;
            value[NAMED_DIMENS + PARINDENT] = 1310720;
            value[NAMED_DIMENS + MAXDEPTH] = 262144;
            value[glueOf(PARSKIP) + 1] = 65536;
            value[glueOf(BASELINESKIP)] = 786432;
            value[glueOf(LINESKIP)] = 65536;
            value[glueOf(TOPSKIP)] = 655360;
            value[glueOf(PARFILLSKIP) + 1] = 65536;
            value[glueOf(PARFILLSKIP) + 2] = 1;
        }

        private static int glueOf(int p) {
            return SKIPS + 4 * (256 + p - PARSKIP);
        }

        private int counter(int p) {
            return value[NAMED_COUNTS + p];
        }

        private int length(int p) {
            return value[NAMED_DIMENS + p];
        }

        /** What was set globally has level 0; so a group that closes leaves it alone. */
        private void set(int variable, int v, boolean global) {
            if (global) {
                level[variable] = 0;
            } else if (level[variable] != groups) {
                if (2 * saved + 2 > saves.length) {
                    saves = Arrays.copyOf(saves, 2 * saves.length);
                }
                saves[2 * saved] = variable | level[variable] << VARIABLE_BITS;
                saves[2 * saved + 1] = value[variable];
                saved++;
                level[variable] = groups;
            }
            value[variable] = v;
        }

        private void openGroup(int kind) {
            if (groups >= 100) {
                fail(2);
            }
            groups++;
            groupKind[groups] = kind;
            groupBase[groups] = saved;
        }

        private void closeGroup() {
            for (int i = saved - 1; i >= groupBase[groups]; i--) {
                int variable = saves[2 * i] & (1 << VARIABLE_BITS) - 1;
                if (level[variable] != 0) {
                    value[variable] = saves[2 * i + 1];
                    level[variable] = saves[2 * i] >> VARIABLE_BITS;
                }
            }
            saved = groupBase[groups];
            groups--;
        }

        private void unwind() {
            for (int open = groups; open > 0; open--) {
                closeGroup();
            }
        }

        private void tick() {
            told[0]++;
            if (told[0] > fuel) {
                fail(10);
            }
        }

        private void fail(int code) {
            fault = code;
            throw new IllegalStateException();
        }
    }

    /** Where words may be broken: patterns and told words, and their texts. */
    private static final class Patterns {
        private static final int LONGEST = 63;
        private static final int MOST = 1000;
        private static final int MOST_TOLD = 300;
        private static final int ROOM = 8000;
        private static final int BEGINS = 1;
        private static final int ENDS = 2;

        private final byte[] letters = new byte[ROOM + 1];
        private final byte[] numbers = new byte[ROOM + MOST + 1];
        private final int[] starts = new int[MOST + 1];
        private final byte[] edges = new byte[MOST];
        private int patterns;
        // Patterns with the same first letter are a chain, so that few are tried at each letter of a word.
        private final int[] heads = new int[27];
        private final int[] links = new int[MOST];

        private final byte[] toldLetters = new byte[ROOM + 1];
        private final int[] toldStarts = new int[MOST_TOLD + 1];
        private final long[] hyphens = new long[MOST_TOLD];
        private final long[] newHyphens = new long[MOST_TOLD];
        private int toldWords;

        // What was spelled last: a pattern or told word of a text.
        private final byte[] spelled = new byte[LONGEST + 1];
        private final byte[] digits = new byte[LONGEST + 2];
        private int length;
        private int spelledEdges;
        private long spelledHyphens;
        private final byte[] values = new byte[LONGEST + 2];

        private Patterns() {
            Arrays.fill(heads, -1);
        }

        private static int letter(int c) {
            if (c >= 'a' && c <= 'z') {
                return c - 'a' + 1;
            }
            return c >= 'A' && c <= 'Z' ? c - 'A' + 1 : 0;
        }

        /** Reads a text of patterns, or of told words: how many it has, or its fault, and then nothing is changed. */
        private int readText(byte[] text, int n, boolean told) {
            int before = patterns;
            int toldBefore = toldWords;
            System.arraycopy(hyphens, 0, newHyphens, 0, toldWords);
            int found = 0;
            int i = skipSpaces(text, 0, n);
            for (int guard = 0; guard < n && i < n; guard++) {
                int from = i;
                i = told ? spellTold(text, i, n) : spellPattern(text, i, n);
                int fault = i < 0 ? 1 : told ? keepTold() : keepPattern();
                if (fault != 0) {
                    patterns = before;
                    toldWords = toldBefore;
                    return -100000 * fault - (fault == 1 ? -1 - i : from);
                }
                found++;
                i = skipSpaces(text, i, n);
            }
            System.arraycopy(newHyphens, 0, hyphens, 0, toldWords);
            for (int k = before; k < patterns; k++) {
                int first = letters[starts[k]];
                links[k] = heads[first];
                heads[first] = k;
            }
            return found;
        }

        private static int skipSpaces(byte[] text, int from, int n) {
            int i = from;
            while (i < n && text[i] == ' ') {
                i++;
            }
            return i;
        }

        /** The place behind the pattern that begins at from, or -1 less the place of what can't be there. */
        private int spellPattern(byte[] text, int from, int n) {
            int i = from;
            length = 0;
            spelledEdges = 0;
            Arrays.fill(digits, (byte) 0);
            if (text[i] == '.') {
                spelledEdges = BEGINS;
                i++;
            }
            boolean digit = false;
            for (; i < n && text[i] != ' '; i++) {
                int c = text[i] & 255;
                int letter = letter(c);
                if (letter > 0) {
                    addLetter(letter);
                    digit = false;
                } else if (c >= '0' && c <= '9' && !digit) {
                    digit = true;
                    if (length <= LONGEST) {
                        digits[length] = (byte) (c - '0');
                    }
                } else if (c == '.' && length > 0) {
                    spelledEdges |= ENDS;
                    i++;
                    return i < n && text[i] != ' ' ? -1 - i : i;
                } else {
                    return -1 - i;
                }
            }
            return length == 0 ? -1 - i : i;
        }

        private void addLetter(int letter) {
            if (length < LONGEST) {
                spelled[length] = (byte) letter;
            }
            length++;
        }

        private int keepPattern() {
            if (length > LONGEST) {
                return 2;
            }
            for (int k = 0; k < patterns; k++) {
                if (edges[k] == spelledEdges && isSpelled(letters, starts[k], starts[k + 1])) {
                    return 3;
                }
            }
            if (patterns >= MOST || starts[patterns] + length > ROOM) {
                return 4;
            }
            int at = starts[patterns];
            System.arraycopy(spelled, 0, letters, at, length);
            System.arraycopy(digits, 0, numbers, at + patterns, length + 1);
            edges[patterns] = (byte) spelledEdges;
            patterns++;
            starts[patterns] = at + length;
            return 0;
        }

        private boolean isSpelled(byte[] row, int from, int to) {
            if (to - from != length) {
                return false;
            }
            for (int i = 0; i < length; i++) {
                if (row[from + i] != spelled[i]) {
                    return false;
                }
            }
            return true;
        }

        private int spellTold(byte[] text, int from, int n) {
            int i = from;
            length = 0;
            spelledHyphens = 0;
            boolean hyphen = true;
            for (; i < n && text[i] != ' '; i++) {
                int letter = letter(text[i] & 255);
                if (letter > 0) {
                    addLetter(letter);
                    hyphen = false;
                } else if (text[i] == '-' && !hyphen) {
                    hyphen = true;
                    spelledHyphens |= 1L << length;
                } else {
                    return -1 - i;
                }
            }
            return hyphen ? -1 - i : i;
        }

        private int keepTold() {
            if (length > LONGEST) {
                return 2;
            }
            int k = findTold();
            if (k < toldWords) {
                newHyphens[k] = spelledHyphens;
                return 0;
            }
            int at = toldStarts[k];
            if (k >= MOST_TOLD || at + length > ROOM) {
                return 4;
            }
            System.arraycopy(spelled, 0, toldLetters, at, length);
            newHyphens[k] = spelledHyphens;
            toldWords++;
            toldStarts[toldWords] = at + length;
            return 0;
        }

        private int findTold() {
            int k = 0;
            while (k < toldWords && !isSpelled(toldLetters, toldStarts[k], toldStarts[k + 1])) {
                k++;
            }
            return k;
        }

        private int dropPatterns() {
            int n = patterns;
            patterns = 0;
            Arrays.fill(heads, -1);
            return n;
        }

        private int dropTold() {
            int n = toldWords;
            toldWords = 0;
            return n;
        }

        /** Takes a word of n letters, 63 at most; false if it has other characters. */
        private boolean takeWord(int[] word, int n) {
            length = n;
            for (int i = 0; i < n; i++) {
                int letter = letter(word[i]);
                if (letter == 0) {
                    return false;
                }
                spelled[i] = (byte) letter;
            }
            findValues();
            return true;
        }

        private void findValues() {
            Arrays.fill(values, (byte) 0);
            int k = findTold();
            if (k < toldWords) {
                for (int i = 1; i < length; i++) {
                    values[i] = (byte) (hyphens[k] >> i & 1);
                }
                return;
            }
            for (int i = 0; i < length; i++) {
                int pattern = heads[spelled[i]];
                for (int guard = 0; guard < MOST && pattern >= 0; guard++) {
                    if (fits(pattern, i)) {
                        raiseValues(pattern, i);
                    }
                    pattern = links[pattern];
                }
            }
        }

        private boolean fits(int pattern, int i) {
            int from = starts[pattern];
            int n = starts[pattern + 1] - from;
            if (i + n > length || (edges[pattern] & BEGINS) != 0 && i > 0
                || (edges[pattern] & ENDS) != 0 && i + n < length) {
                return false;
            }
            for (int k = 0; k < n; k++) {
                if (letters[from + k] != spelled[i + k]) {
                    return false;
                }
            }
            return true;
        }

        private void raiseValues(int pattern, int i) {
            int from = starts[pattern] + pattern;
            int n = starts[pattern + 1] - starts[pattern];
            for (int k = 0; k <= n; k++) {
                if (numbers[from + k] > values[i + k]) {
                    values[i + k] = numbers[from + k];
                }
            }
        }

        private boolean breaksAt(int k) {
            return k >= 2 && length - k >= 3 && (values[k] & 1) == 1;
        }
    }

    /** A font's metric file. */
    private static final class FontFile {
        private static final int MOST = 8192;
        private static final int HEAD = 0;
        private static final int CHARACTERS = 1;
        private static final int WIDTHS = 2;
        private static final int HEIGHTS = 3;
        private static final int DEPTHS = 4;
        private static final int ITALICS = 5;
        private static final int PROGRAM = 6;
        private static final int KERNS = 7;
        private static final int RECIPES = 8;
        private static final int PARAMETERS = 9;
        private static final int PARTS = 10;
        private static final int EDGE = 256;

        private final byte[] bytes = new byte[MOST];
        private final int[] base = new int[PARTS];
        private final int[] words = new int[PARTS];
        private boolean loaded;
        private int first;
        private int edge;
        private int edgeStart;

        private FontFile() {
            edge = -1;
            edgeStart = -1;
        }

        /** 0 or the file's fault. */
        private int load(byte[] text, int n) {
            loaded = false;
            if (n > MOST) {
                return 4;
            }
            System.arraycopy(text, 0, bytes, 0, n);
            int fault = headFault(n);
            if (fault == 0) {
                fault = placeFault();
            }
            if (fault == 0) {
                fault = tagFault();
            }
            if (fault == 0) {
                fault = fractionFault();
            }
            if (fault == 0) {
                findEdges();
                fault = programFault();
            }
            if (fault == 0) {
                fault = recipeFault();
            }
            loaded = fault == 0;
            return fault;
        }

        private int half(int i) {
            return (bytes[2 * i] & 255) << 8 | bytes[2 * i + 1] & 255;
        }

        /** Byte k of word i of a part. */
        private int at(int part, int i, int k) {
            return bytes[4 * (base[part] + i) + k] & 255;
        }

        private int word(int part, int i) {
            return at(part, i, 0) << 24 | at(part, i, 1) << 16 | at(part, i, 2) << 8 | at(part, i, 3);
        }

        private int headFault(int n) {
            if (n < 24) {
                return 1;
            }
            for (int i = 0; i < 12; i++) {
                if (half(i) > 32767) {
                    return 1;
                }
            }
            first = half(2);
            int last = half(3);
            if (first > last + 1 || last > 255) {
                return 2;
            }
            if (half(1) < 2 || half(4) == 0 || half(5) == 0 || half(6) == 0 || half(7) == 0 || half(10) > 256) {
                return 3;
            }
            words[HEAD] = half(1);
            words[CHARACTERS] = last - first + 1;
            for (int part = WIDTHS; part < PARTS; part++) {
                words[part] = half(part + 2);
            }
            int sum = 6;
            for (int part = 0; part < PARTS; part++) {
                base[part] = sum;
                sum += words[part];
            }
            if (half(0) != sum || n != 4 * sum) {
                return 4;
            }
            return word(HEAD, 1) < 1 << 20 ? 5 : 0;
        }

        private int placeFault() {
            for (int i = 0; i < words[CHARACTERS]; i++) {
                if (at(CHARACTERS, i, 0) >= words[WIDTHS] || at(CHARACTERS, i, 1) / 16 >= words[HEIGHTS]
                    || at(CHARACTERS, i, 1) % 16 >= words[DEPTHS] || at(CHARACTERS, i, 2) / 4 >= words[ITALICS]) {
                    return 6;
                }
            }
            return 0;
        }

        private boolean isThere(int c) {
            return c >= first && c < first + words[CHARACTERS] && at(CHARACTERS, c - first, 0) != 0;
        }

        private int tag(int c) {
            return isThere(c) ? at(CHARACTERS, c - first, 2) % 4 : 0;
        }

        private int rest(int c) {
            return at(CHARACTERS, c - first, 3);
        }

        private int tagFault() {
            for (int i = 0; i < words[CHARACTERS]; i++) {
                int c = first + i;
                int tag = tag(c);
                if (tag == 1 && rest(c) >= words[PROGRAM] || tag == 3 && rest(c) >= words[RECIPES]
                    || tag == 2 && (!isThere(rest(c)) || leadsBack(c))) {
                    return 7;
                }
            }
            return 0;
        }

        private boolean leadsBack(int c) {
            int next = rest(c);
            for (int step = 0; step < 256 && next != c && tag(next) == 2; step++) {
                next = rest(next);
            }
            return next == c;
        }

        private int fractionFault() {
            for (int part = WIDTHS; part <= KERNS; part++) {
                for (int i = 0; part != PROGRAM && i < words[part]; i++) {
                    if (!isFraction(part, i)) {
                        return 8;
                    }
                }
                if (part < PROGRAM && word(part, 0) != 0) {
                    return 8;
                }
            }
            return 0;
        }

        private boolean isFraction(int part, int i) {
            int a = at(part, i, 0);
            return a == 0 || a == 255;
        }

        private void findEdges() {
            int n = words[PROGRAM];
            edge = n > 0 && at(PROGRAM, 0, 0) == 255 ? at(PROGRAM, 0, 1) : -1;
            edgeStart = n > 0 && at(PROGRAM, n - 1, 0) == 255 ? jump(n - 1) : -1;
        }

        private int jump(int i) {
            return 256 * at(PROGRAM, i, 2) + at(PROGRAM, i, 3);
        }

        private int programFault() {
            int n = words[PROGRAM];
            for (int i = 0; i < n; i++) {
                int skip = at(PROGRAM, i, 0);
                if (skip > 128) {
                    if (jump(i) >= n) {
                        return 9;
                    }
                    continue;
                }
                int next = at(PROGRAM, i, 1);
                boolean kern = at(PROGRAM, i, 2) >= 128;
                if (!isThere(next) && next != edge || kern && kernPlace(i) >= words[KERNS]
                    || !kern && !isThere(at(PROGRAM, i, 3)) || skip < 128 && i + skip + 1 >= n) {
                    return 9;
                }
            }
            return 0;
        }

        private int kernPlace(int i) {
            return 256 * (at(PROGRAM, i, 2) - 128) + at(PROGRAM, i, 3);
        }

        private int recipeFault() {
            for (int i = 0; i < words[RECIPES]; i++) {
                for (int k = 0; k < 4; k++) {
                    int c = at(RECIPES, i, k);
                    if (!isThere(c) && (k == 3 || c != 0)) {
                        return 10;
                    }
                }
            }
            for (int i = 1; i < words[PARAMETERS]; i++) {
                if (!isFraction(PARAMETERS, i)) {
                    return 11;
                }
            }
            return 0;
        }

        private int scaled(int part, int i, int size) {
            int k = 0;
            long z = size;
            while (z >= 8388608) {
                z = z / 2;
                k++;
            }
            int from = 4 * (base[part] + i);
            long fraction = (bytes[from + 1] & 255) << 16 | (bytes[from + 2] & 255) << 8 | bytes[from + 3] & 255;
            long v = fraction * z >> 20 - k;
            return (int) (bytes[from] != 0 ? v - (z << 4 + k) : v);
        }

        /** The word of the program that x's program finds for r, or -1. */
        private int ask(int x, int r) {
            int i = edgeStart;
            if (x != EDGE) {
                i = at(CHARACTERS, x - first, 2) % 4 == 1 ? at(CHARACTERS, x - first, 3) : -1;
            }
            if (i < 0) {
                return -1;
            }
            if (at(PROGRAM, i, 0) > 128) {
                i = jump(i);
            }
            int wanted = r == EDGE ? edge : r;
            while (i < words[PROGRAM]) {
                int skip = at(PROGRAM, i, 0);
                if (skip > 128) {
                    return -1;
                }
                if (at(PROGRAM, i, 1) == wanted) {
                    return i;
                }
                if (skip == 128) {
                    return -1;
                }
                i += skip + 1;
            }
            return -1;
        }

        private int op(int i) {
            return at(PROGRAM, i, 2);
        }
    }

    /** The fonts of a run, and how rows of their characters are set. */
    private static final class Fonts {
        private static final int MOST = 100;
        private static final int MOST_ASKED = 1000;
        private static final int EDGE = 256;
        private static final int ROW = 2200;

        private final FontFile[] slots;
        private final int[] slot = new int[MOST];
        private final int[] scale = new int[MOST];
        private final int[] check = new int[MOST];
        private final int[] design = new int[MOST];
        private int fonts;
        private final int[] rest = new int[ROW];
        // A row that is set: characters, or -1 where the other row has a kern.
        private final int[] whole = new int[ROW];
        private final int[] wholeKerns = new int[ROW];
        private final int[] part = new int[ROW];
        private final int[] partKerns = new int[ROW];
        private final int[] hyphens = new int[ROW];

        private Fonts(FontFile[] slots) {
            this.slots = slots;
        }

        /** The number of the font of that slot and size, or -1 if there are too many. */
        private int find(int slotWanted, int size) {
            for (int i = 0; i < fonts; i++) {
                if (slot[i] == slotWanted && scale[i] == size) {
                    return i;
                }
            }
            if (fonts >= MOST) {
                return -1;
            }
            slot[fonts] = slotWanted;
            scale[fonts] = size;
            check[fonts] = slots[slotWanted].word(FontFile.HEAD, 0);
            design[fonts] = designOf(slotWanted);
            fonts++;
            return fonts - 1;
        }

        private FontFile fileOf(int font) {
            return slots[slot[font]];
        }

        /** The design size of a slot's font file, as a size. */
        private int designOf(int slotWanted) {
            return slots[slotWanted].word(FontFile.HEAD, 1) / 16;
        }

        private boolean isThere(int font, int c) {
            return font >= 0 && fileOf(font).isThere(c);
        }

        private int width(int font, int c) {
            FontFile f = fileOf(font);
            return f.scaled(FontFile.WIDTHS, f.at(FontFile.CHARACTERS, c - f.first, 0), scale[font]);
        }

        private int height(int font, int c) {
            FontFile f = fileOf(font);
            return f.scaled(FontFile.HEIGHTS, f.at(FontFile.CHARACTERS, c - f.first, 1) / 16, scale[font]);
        }

        private int depth(int font, int c) {
            FontFile f = fileOf(font);
            return f.scaled(FontFile.DEPTHS, f.at(FontFile.CHARACTERS, c - f.first, 1) % 16, scale[font]);
        }

        /** Parameter k, from 1 on; 0 without a font or for one that it has not. */
        private int parameter(int font, int k) {
            if (font < 0 || k > fileOf(font).words[FontFile.PARAMETERS]) {
                return 0;
            }
            return fileOf(font).scaled(FontFile.PARAMETERS, k - 1, scale[font]);
        }

        /** Sets word[from .. to - 1] into chars and kerns: how many items, or -1 if there was too much asking. */
        private int set(int[] word, int from, int to, int font, int[] chars, int[] kerns) {
            FontFile f = fileOf(font);
            int left = stack(word, from, to, f);
            int x = rest[--left];
            int n = 0;
            int asked = 0;
            while (left > 0) {
                asked++;
                if (asked > MOST_ASKED) {
                    return -1;
                }
                int r = rest[left - 1];
                int found = f.ask(x, r);
                int forward = 1;
                if (found >= 0 && f.op(found) < 128) {
                    int op = f.op(found);
                    left--;
                    if ((op & 1) == 1) {
                        rest[left++] = r;
                    }
                    rest[left++] = f.at(FontFile.PROGRAM, found, 3);
                    if ((op & 2) == 0) {
                        x = rest[--left];
                    }
                    forward = op / 4;
                    found = -1;
                }
                for (; forward > 0 && left > 0; forward--) {
                    n = tell(x, n, chars);
                    x = rest[--left];
                }
                if (found >= 0) {
                    chars[n] = -1;
                    kerns[n] = f.scaled(FontFile.KERNS, f.kernPlace(found), scale[font]);
                    n++;
                }
            }
            return tell(x, n, chars);
        }

        /** The row with its edges, the first one on top. */
        private int stack(int[] word, int from, int to, FontFile f) {
            int left = 0;
            if (f.edge >= 0) {
                rest[left++] = EDGE;
            }
            for (int i = to - 1; i >= from; i--) {
                rest[left++] = word[i];
            }
            if (f.edgeStart >= 0) {
                rest[left++] = EDGE;
            }
            return left;
        }

        private static int tell(int x, int n, int[] chars) {
            if (x == EDGE) {
                return n;
            }
            chars[n] = x;
            return n + 1;
        }

        /** Marks in hyphens before which of the n items of a whole word hyphens come: 1, or 2 with a kern replaced. */
        private void findHyphens(int[] word, int size, int font, int n, Patterns patterns) {
            for (int k = 1; k < size; k++) {
                if (!patterns.breaksAt(k)) {
                    continue;
                }
                int front = set(word, 0, k, font, part, partKerns);
                if (front < 0 || front > n || !isPartAt(0, front)) {
                    continue;
                }
                int back = set(word, k, size, font, part, partKerns);
                int between = n - front - back;
                if (back < 0 || between < 0 || between > 1 || between == 1 && whole[front] >= 0
                    || !isPartAt(n - back, back)) {
                    continue;
                }
                if (hyphens[front] == 0) {
                    hyphens[front] = 1 + between;
                }
            }
        }

        private boolean isPartAt(int from, int n) {
            for (int i = 0; i < n; i++) {
                if (whole[from + i] != part[i] || part[i] < 0 && wholeKerns[from + i] != partKerns[i]) {
                    return false;
                }
            }
            return true;
        }
    }

    /** Tokens: from the source, pending ones, and those of macros. */
    private static final class Reader {
        private static final int NEW = 0;
        private static final int MIDDLE = 1;
        private static final int SKIPPING = 2;
        private static final int MOST_PENDING = 10000;
        private static final int MOST_STORED = 10000;
        private static final int MOST_GOT = 10000;

        private final State state;
        private byte[] text = new byte[0];
        private int textEnd;
        private int nextLine;
        private int lineEnd;
        private int at;
        private int mood;
        private int line;
        // The last one is the first that is got.
        private final int[] pending = new int[MOST_PENDING + 100];
        private int waiting;
        // A macro's delimiters and parameters, then its body, up to where the next macro begins.
        private final int[] store = new int[MOST_STORED + 1];
        private int stored;
        private final int[] start = new int[MOST_STORED + 2];
        private final int[] body = new int[MOST_STORED + 2];
        private int macros;
        private final int[] arguments = new int[9 * MOST_GOT + 9];
        private final int[] argumentFrom = new int[10];
        private final int[] argumentTo = new int[10];

        private Reader(State state) {
            this.state = state;
        }

        private void begin(byte[] source, int n) {
            text = source;
            textEnd = n;
            nextLine = 0;
            lineEnd = -1;
            at = 0;
            line = 0;
            waiting = 0;
            stored = 0;
            macros = 0;
        }

        private boolean beginLine() {
            if (nextLine >= textEnd) {
                return false;
            }
            at = nextLine;
            int i = nextLine;
            while (i < textEnd && text[i] != 10) {
                i++;
            }
            nextLine = i + 1;
            while (i > at && text[i - 1] == ' ') {
                i--;
            }
            lineEnd = i;
            mood = NEW;
            line++;
            return true;
        }

        /** Gets a token. At the end of the text: -1, or a fault if one is needed. */
        private int next(boolean needed) {
            if (waiting > 0) {
                waiting--;
                return pending[waiting];
            }
            for (int guard = 0; guard < FAR; guard++) {
                if (at > lineEnd && !beginLine()) {
                    break;
                }
                int c = at < lineEnd ? text[at] & 255 : 13;
                int category = state.value[CATEGORIES + c];
                at++;
                if (category == 0) {
                    int n = spellName();
                    int id = n > NAME_ROOM ? -1 : state.intern(n);
                    if (id < 0) {
                        state.fail(2);
                    }
                    return NAME | id;
                }
                if (category == 5 || category == 14) {
                    at = lineEnd + 1;
                    if (category == 5 && mood != SKIPPING) {
                        return mood == NEW ? NAME | PAR : SPACE;
                    }
                } else if (category == 10) {
                    if (mood == MIDDLE) {
                        mood = SKIPPING;
                        return SPACE;
                    }
                } else if (category == 15) {
                    state.fail(1);
                } else if (category != 9) {
                    mood = MIDDLE;
                    return category == 13 ? ACTIVE | c : category << 8 | c;
                }
            }
            if (needed) {
                state.fail(9);
            }
            return -1;
        }

        /** Spells the name that begins here: how many characters, not told exactly above 40. */
        private int spellName() {
            int n = 0;
            mood = MIDDLE;
            while (at <= lineEnd && n <= NAME_ROOM) {
                int c = at < lineEnd ? text[at] & 255 : 13;
                int category = state.value[CATEGORIES + c];
                if (category != 11 && n > 0) {
                    break;
                }
                if (n < NAME_ROOM) {
                    state.letters[state.names * NAME_ROOM + n] = (byte) c;
                }
                n++;
                at++;
                mood = category == 11 || category == 10 ? SKIPPING : MIDDLE;
                if (category != 11) {
                    break;
                }
            }
            return n;
        }

        private void put(int t) {
            if (waiting >= pending.length) {
                state.fail(2);
            }
            pending[waiting] = t;
            waiting++;
        }

        private int nextNoSpace() {
            int t = next(true);
            for (int guard = 0; guard < FAR && t == SPACE; guard++) {
                t = next(true);
            }
            return t;
        }

        private void store(int t) {
            if (stored + macros >= MOST_STORED) {
                state.fail(2);
            }
            store[stored] = t & ~MARK;
            stored++;
        }

        private void beginMacro() {
            if (stored + macros >= MOST_STORED) {
                state.fail(2);
            }
            start[macros] = stored;
            macros++;
        }

        private void beginBody() {
            body[macros - 1] = stored;
            start[macros] = stored;
        }

        private int endMacro() {
            start[macros] = stored;
            return macros - 1;
        }

        private boolean sameMacro(int a, int b) {
            int from = start[a];
            int n = start[a + 1] - from;
            if (n != start[b + 1] - start[b] || body[a] - from != body[b] - start[b]) {
                return false;
            }
            for (int i = 0; i < n; i++) {
                if (store[from + i] != store[start[b] + i]) {
                    return false;
                }
            }
            return true;
        }

        private void call(int macro) {
            int p = start[macro];
            int last = body[macro];
            while (p < last && store[p] < PARAMETER) {
                if ((next(true) & ~MARK) != store[p]) {
                    state.fail(4);
                }
                p++;
            }
            int free = 0;
            for (int k = 1; k <= 9 && p < last; k++) {
                int from = p + 1;
                p = behindDelimiters(from, last);
                int n = 0;
                int depth = 0;
                for (int guard = 0; guard < FAR; guard++) {
                    int t = next(true);
                    if (t == SPACE && n == 0 && from == p) {
                        continue;
                    }
                    if (n >= MOST_GOT) {
                        state.fail(2);
                    }
                    arguments[free + n] = t;
                    n++;
                    depth += t >> 8 == 1 ? 1 : t >> 8 == 2 ? -1 : 0;
                    if (depth < 0) {
                        state.fail(5);
                    }
                    if (depth == 0 && endsArgument(free, free + n, from, p)) {
                        break;
                    }
                }
                keepArgument(k, free, free + n - (p - from));
                free += n;
            }
            putBody(macro);
        }

        private int behindDelimiters(int from, int last) {
            int p = from;
            while (p < last && store[p] < PARAMETER) {
                p++;
            }
            return p;
        }

        private void keepArgument(int k, int from, int to) {
            boolean strip = to - from >= 2 && isOneGroup(from, to);
            argumentFrom[k] = strip ? from + 1 : from;
            argumentTo[k] = strip ? to - 1 : to;
        }

        private boolean endsArgument(int free, int end, int from, int to) {
            if (end - free < to - from) {
                return false;
            }
            for (int i = 1; i <= to - from; i++) {
                if ((arguments[end - i] & ~MARK) != store[to - i]) {
                    return false;
                }
            }
            return true;
        }

        private boolean isOneGroup(int from, int end) {
            int depth = 0;
            for (int i = from; i < end; i++) {
                int category = arguments[i] >> 8;
                depth += category == 1 ? 1 : category == 2 ? -1 : 0;
                if (depth == 0 && i < end - 1) {
                    return false;
                }
            }
            return true;
        }

        private void putBody(int macro) {
            int room = MOST_PENDING - waiting;
            int n = 0;
            for (int i = body[macro]; i < start[macro + 1]; i++) {
                int k = store[i] & 15;
                n += store[i] < PARAMETER ? 1 : argumentTo[k] - argumentFrom[k];
            }
            if (n > room) {
                state.fail(2);
            }
            for (int i = start[macro + 1] - 1; i >= body[macro]; i--) {
                if (store[i] < PARAMETER) {
                    pending[waiting] = store[i];
                    waiting++;
                    continue;
                }
                int k = store[i] & 15;
                for (int a = argumentTo[k] - 1; a >= argumentFrom[k]; a--) {
                    pending[waiting] = arguments[a];
                    waiting++;
                }
            }
        }
    }

    /** Expansion, conditions, and what is read expanded: numbers, dimensions, glue. */
    private static final class Expander {
        private static final int DEEPEST = 40;
        private static final int MOST_OPEN = 100;
        private static final int UNDECIDED = 0;
        private static final int DECIDED = 1;
        private static final int BEHIND_ELSE = 2;
        private static final int ZERO = OTHER | '0';
        private static final int MINUS = OTHER | '-';
        private static final int QUOTE = OTHER | '`';
        private static final int EQUALS = OTHER | '=';

        private final State state;
        private final Reader reader;
        private final Fonts fonts;
        private final Boxes boxes;
        private final int[] condition = new int[MOST_OPEN];
        private final int[] stage = new int[MOST_OPEN];
        private int open;
        private int depth;
        // Names and keywords that are being read; those of inner expansions are on top.
        private final int[] held = new int[(DEEPEST + 2) * (NAME_ROOM + 2)];
        private int holding;
        private boolean vertical;
        // Further answers of the methods that read; each is taken at once, as inner readings write them too.
        private boolean less;
        private long divisor;
        private int order;
        private final int[] glue = new int[4];

        private Expander(State state, Reader reader, Fonts fonts, Boxes boxes) {
            this.state = state;
            this.reader = reader;
            this.fonts = fonts;
            this.boxes = boxes;
        }

        private void begin() {
            open = 0;
            depth = 0;
            holding = 0;
            vertical = true;
        }

        private int meaning(int t) {
            if ((t & MARK) != 0) {
                return PRIMITIVE | RELAX;
            }
            if (t >= NAME) {
                return state.value[t & LOW];
            }
            return t >= ACTIVE ? state.value[ACTIVES + (t & 255)] : CHARACTER | t;
        }

        private boolean isExpandable(int t) {
            if (t < ACTIVE || (t & MARK) != 0) {
                return false;
            }
            int m = meaning(t);
            return m >> 16 == MACRO >> 16 || m >> 16 == PRIMITIVE >> 16 && (m & LOW) <= FI;
        }

        /** Gets a token expanded. At the end of the source: -1, or a fault if one is needed. */
        private int expanded(boolean needed) {
            for (int guard = 0; guard < FAR; guard++) {
                int t = reader.next(needed);
                if (!isExpandable(t)) {
                    return t;
                }
                expand(t);
            }
            state.fail(10);
            return -1;
        }

        private void expand(int t) {
            state.tick();
            if (depth >= DEEPEST) {
                state.fail(3);
            }
            depth++;
            int m = meaning(t);
            int p = m & LOW;
            if (m >> 16 == MACRO >> 16) {
                reader.call(p);
            } else if (p < IF) {
                expandWord(p);
            } else if (p > IFCASE) {
                drop(meetDivider(t, p), -1);
            } else {
                int c = openCondition(p);
                int n = decide(p);
                stage[c] = DECIDED;
                drop(c, n);
            }
            depth--;
            if (reader.waiting > Reader.MOST_PENDING) {
                state.fail(2);
            }
        }

        private void expandWord(int p) {
            switch (p) {
                case EXPANDAFTER:
                    int first = reader.next(true);
                    int second = reader.next(true);
                    if (isExpandable(second)) {
                        expand(second);
                    } else {
                        reader.put(second);
                    }
                    reader.put(first);
                    break;
                case NOEXPAND:
                    int t = reader.next(true);
                    reader.put(isExpandable(t) ? t | MARK : t);
                    break;
                case CSNAME:
                    makeName();
                    break;
                case STRING:
                    putString(reader.next(true));
                    break;
                case NUMBER_OF:
                    putDigits(number());
                    break;
                case ROMAN:
                    putRoman(number());
                    break;
                default:
                    putThe();
                    break;
            }
        }

        private void hold(int t) {
            if (holding < held.length) {
                held[holding] = t;
                holding++;
            }
        }

        private void makeName() {
            int base = holding;
            for (int guard = 0; guard < FAR; guard++) {
                int t = expanded(true);
                if (meaning(t) == (PRIMITIVE | ENDCSNAME)) {
                    break;
                }
                if (t >= ACTIVE) {
                    state.fail(6);
                }
                if (holding - base >= NAME_ROOM) {
                    state.fail(2);
                }
                hold(t & 255);
            }
            int n = holding - base;
            for (int i = 0; i < n; i++) {
                state.letters[state.names * NAME_ROOM + i] = (byte) held[base + i];
            }
            holding = base;
            int id = state.intern(n);
            if (id < 0) {
                state.fail(2);
            }
            if (state.value[id] == 0) {
                state.set(id, PRIMITIVE | RELAX, false);
            }
            reader.put(NAME | id);
        }

        private static int written(int c) {
            return c == ' ' ? SPACE : OTHER | c;
        }

        private void putString(int t) {
            int plain = t & ~MARK;
            if (plain < NAME) {
                reader.put(written(plain & 255));
                return;
            }
            int id = plain & LOW;
            for (int i = state.lengths[id] - 1; i >= 0; i--) {
                reader.put(written(state.letters[id * NAME_ROOM + i] & 255));
            }
            reader.put(OTHER | '\\');
        }

        private void putDigits(int v) {
            long rest = v < 0 ? -(long) v : v;
            do {
                reader.put(ZERO + (int) (rest % 10));
                rest = rest / 10;
            } while (rest > 0);
            if (v < 0) {
                reader.put(MINUS);
            }
        }

        private void putRoman(int v) {
            if (v > 9999) {
                state.fail(7);
            }
            int base = holding;
            for (int i = 0; i < v / 1000; i++) {
                hold('m');
            }
            if (v > 0) {
                holdRoman(v / 100 % 10, 'c', 'd', 'm');
                holdRoman(v / 10 % 10, 'x', 'l', 'c');
                holdRoman(v % 10, 'i', 'v', 'x');
            }
            while (holding > base) {
                holding--;
                reader.put(OTHER | held[holding]);
            }
        }

        private void holdRoman(int digit, char one, char five, char ten) {
            if (digit % 5 == 4) {
                hold(one);
                hold(digit == 4 ? five : ten);
                return;
            }
            if (digit >= 5) {
                hold(five);
            }
            for (int i = 0; i < digit % 5; i++) {
                hold(one);
            }
        }

        private void putThe() {
            int t = expanded(true);
            int m = meaning(t);
            if (quantity(m) >= LENGTH) {
                int v = lengthOf(m & LOW);
                reader.put(OTHER | 'p');
                reader.put(OTHER | 's');
                putDigits(v);
            } else {
                putDigits(valueOf(t));
            }
        }

        private int openCondition(int p) {
            if (open >= MOST_OPEN) {
                state.fail(2);
            }
            condition[open] = p;
            stage[open] = UNDECIDED;
            open++;
            return open - 1;
        }

        /** 0 if what follows the condition goes its way; else for ifcase its number, for others -1. */
        private int decide(int p) {
            boolean holds = p == IFTRUE;
            int first;
            int second;
            switch (p) {
                case IF:
                case IFCAT:
                    first = faceOf(expanded(true), p);
                    holds = first == faceOf(expanded(true), p);
                    break;
                case IFX:
                    first = meaning(reader.next(true));
                    second = meaning(reader.next(true));
                    holds = first == second || first >> 16 == MACRO >> 16 && second >> 16 == MACRO >> 16
                        && reader.sameMacro(first & LOW, second & LOW);
                    break;
                case IFNUM:
                    first = number();
                    second = relation();
                    holds = compares(first, second, number());
                    break;
                case IFDIM:
                    first = afterSigns();
                    first = dimensionFrom(first, less, false);
                    int relation = relation();
                    second = afterSigns();
                    holds = compares(first, relation, dimensionFrom(second, less, false));
                    break;
                case IFODD:
                    holds = (number() & 1) == 1;
                    break;
                case IFVMODE:
                    holds = vertical;
                    break;
                case IFHMODE:
                    holds = !vertical;
                    break;
                case IFVOID:
                    holds = state.value[BOXES + upTo(255)] == 0;
                    break;
                case IFCASE:
                    return number();
                default:
                    break;
            }
            return holds ? 0 : -1;
        }

        private int faceOf(int t, int p) {
            int m = meaning(t);
            if (m >> 16 != CHARACTER >> 16) {
                return p == IF ? 256 : 16;
            }
            return p == IF ? m & 255 : m >> 8 & 15;
        }

        private int relation() {
            int t = noSpace();
            if (t < (OTHER | '<') || t > (OTHER | '>')) {
                state.fail(6);
            }
            return t & 255;
        }

        private static boolean compares(int a, int relation, int b) {
            return relation == '<' ? a < b : relation == '=' ? a == b : a > b;
        }

        private int noSpace() {
            int t = expanded(true);
            for (int guard = 0; guard < FAR && t == SPACE; guard++) {
                t = expanded(true);
            }
            return t;
        }

        /** Drops what does not go its way of condition c: up to its n-th or, or its else or fi; for n = 0 nothing. */
        private void drop(int c, int n) {
            int left = c < 0 ? 0 : n;
            int inner = 0;
            for (int guard = 0; guard < FAR && left != 0; guard++) {
                int m = meaning(reader.next(true));
                int p = m >> 16 == PRIMITIVE >> 16 ? m & LOW : RELAX;
                if (p >= IF && p <= IFCASE) {
                    inner++;
                } else if (p < ELSE || p > FI) {
                    continue;
                } else if (inner > 0) {
                    inner -= p == FI ? 1 : 0;
                } else if (open - 1 > c) {
                    // A condition that was opened while c was being decided: only its fi counts.
                    open -= p == FI ? 1 : 0;
                } else if (p == FI) {
                    open--;
                    return;
                } else if (stage[c] != BEHIND_ELSE) {
                    if (p == ELSE) {
                        stage[c] = BEHIND_ELSE;
                        return;
                    }
                    if (condition[c] != IFCASE) {
                        state.fail(8);
                    }
                    left = left > 0 ? left - 1 : left;
                }
            }
        }

        /** An else, or or fi is met: the condition of which the rest is to be dropped then, or -1. */
        private int meetDivider(int t, int p) {
            if (open == 0) {
                state.fail(8);
            }
            int c = open - 1;
            if (stage[c] == UNDECIDED) {
                reader.put(t);
                reader.put(NAME | RELAX | MARK);
                return -1;
            }
            if (p == FI) {
                open--;
                return -1;
            }
            if (stage[c] == BEHIND_ELSE || p == OR && condition[c] != IFCASE) {
                state.fail(8);
            }
            stage[c] = BEHIND_ELSE;
            return c;
        }

        /** What comes behind spaces and signs; less tells if these make it less. */
        private int afterSigns() {
            boolean minus = false;
            int t = expanded(true);
            for (int guard = 0; guard < FAR && (t == SPACE || t == MINUS || t == (OTHER | '+')); guard++) {
                minus = minus != (t == MINUS);
                t = expanded(true);
            }
            less = minus;
            return t;
        }

        private int number() {
            if (depth >= DEEPEST) {
                state.fail(3);
            }
            depth++;
            int t = afterSigns();
            boolean minus = less;
            int v = isDigit(t) ? digits(t) : t == QUOTE ? code() : valueOf(t);
            depth--;
            return minus ? -v : v;
        }

        private int upTo(int most) {
            int v = number();
            if (v < 0 || v > most) {
                state.fail(7);
            }
            return v;
        }

        private static boolean isDigit(int t) {
            return t >= ZERO && t <= ZERO + 9;
        }

        private int digits(int first) {
            long v = 0;
            int t = first;
            for (int guard = 0; guard < FAR && isDigit(t); guard++) {
                v = 10 * v + t - ZERO;
                if (v > 2147483647) {
                    state.fail(7);
                }
                t = expanded(false);
            }
            if (t >= 0 && t != SPACE) {
                reader.put(t);
            }
            return (int) v;
        }

        private int code() {
            int t = reader.next(true) & ~MARK;
            int c = t & 255;
            if (t >= NAME) {
                int id = t & LOW;
                if (state.lengths[id] != 1) {
                    state.fail(6);
                }
                c = state.letters[id * NAME_ROOM] & 255;
            }
            dropSpace();
            return c;
        }

        private void dropSpace() {
            int t = expanded(false);
            if (t >= 0 && t != SPACE) {
                reader.put(t);
            }
        }

        private int valueOf(int t) {
            int m = meaning(t);
            if (m >> 16 == NUMBER >> 16) {
                return m & 255;
            }
            if (m == (PRIMITIVE | CATCODE)) {
                return state.value[CATEGORIES + upTo(255)];
            }
            int kind = quantity(m);
            if (kind == NO_QUANTITY) {
                state.fail(6);
            }
            return kind == COUNTER ? state.value[variable(m & LOW)] : lengthOf(m & LOW);
        }

        private static int quantity(int m) {
            int p = m & LOW;
            if (m >> 16 != PRIMITIVE >> 16 || p < COUNT || p > DP) {
                return NO_QUANTITY;
            }
            if (p >= WD) {
                return BOX_SIZE;
            }
            if (p == COUNT || p >= PRETOLERANCE && p <= LOOSENESS) {
                return COUNTER;
            }
            return p == DIMEN || p >= HSIZE && p <= EMERGENCYSTRETCH ? LENGTH : GLUE_QUANTITY;
        }

        /** Where the quantity of a primitive is that can be set, its number read if it has one. */
        private int variable(int p) {
            if (p == COUNT) {
                return COUNTS + upTo(255);
            }
            if (p == DIMEN) {
                return DIMENS + upTo(255);
            }
            if (p == SKIP) {
                return SKIPS + 4 * upTo(255);
            }
            if (p <= LOOSENESS) {
                return NAMED_COUNTS + p;
            }
            return p <= EMERGENCYSTRETCH ? NAMED_DIMENS + p : State.glueOf(p);
        }

        private int lengthOf(int p) {
            if (p < WD) {
                return state.value[variable(p)];
            }
            int box = state.value[BOXES + upTo(255)] - 1;
            if (box < 0) {
                return 0;
            }
            return p == WD ? boxes.width[box] : p == HT ? boxes.height[box] : boxes.depth[box];
        }

        private boolean keyword(String word) {
            int base = holding;
            int t = expanded(false);
            for (int guard = 0; guard < FAR && t == SPACE; guard++) {
                t = expanded(false);
            }
            for (int i = 0; i < word.length(); i++) {
                char c = word.charAt(i);
                if (t < 0 || t >= ACTIVE || (t & 255) != c && (t & 255) != c - 32) {
                    if (t >= 0) {
                        reader.put(t);
                    }
                    while (holding > base) {
                        holding--;
                        reader.put(held[holding]);
                    }
                    return false;
                }
                hold(t);
                t = i + 1 < word.length() ? expanded(false) : t;
            }
            holding = base;
            return true;
        }

        private static boolean isPoint(int t) {
            return t == (OTHER | '.') || t == (OTHER | ',');
        }

        /** A factor times what divisor tells then. */
        private long factor(int first) {
            if (!isDigit(first) && !isPoint(first)) {
                int whole = first == QUOTE ? code() : valueOf(first);
                divisor = 1;
                return whole;
            }
            long v = 0;
            int t = first;
            for (int guard = 0; guard < FAR && isDigit(t); guard++) {
                v = 10 * v + t - ZERO;
                if (v > 2147483647) {
                    state.fail(7);
                }
                t = expanded(false);
            }
            int places = 0;
            if (isPoint(t)) {
                t = expanded(false);
                for (int guard = 0; guard < FAR && isDigit(t); guard++) {
                    places++;
                    if (places > 4) {
                        state.fail(7);
                    }
                    v = 10 * v + t - ZERO;
                    t = expanded(false);
                }
            }
            if (t >= 0) {
                reader.put(t);
            }
            for (; places < 4; places++) {
                v = 10 * v;
            }
            divisor = 10000;
            return v;
        }

        /** A unit times what divisor tells then, which is 0 for sp. */
        private long unit() {
            int t = noSpace();
            int m = meaning(t);
            if (quantity(m) >= LENGTH) {
                long v = lengthOf(m & LOW);
                divisor = 1;
                return v;
            }
            reader.put(t);
            int font = state.value[FONT_NOW] - 1;
            long v = 65536 * 7227;
            long by = 1;
            if (keyword("pt")) {
                v = 65536;
            } else if (keyword("pc")) {
                v = 786432;
            } else if (keyword("in")) {
                by = 100;
            } else if (keyword("bp")) {
                by = 7200;
            } else if (keyword("cm")) {
                by = 254;
            } else if (keyword("mm")) {
                by = 2540;
            } else if (keyword("sp")) {
                v = 1;
                by = 0;
            } else if (keyword("em")) {
                v = fonts.parameter(font, 6);
            } else if (keyword("ex")) {
                v = fonts.parameter(font, 5);
            } else {
                state.fail(6);
            }
            dropSpace();
            divisor = by;
            return v;
        }

        /** The order that fil and what follows it tells, 0 without it. */
        private int fils() {
            if (!keyword("fil")) {
                return 0;
            }
            int n = 1;
            while (n < 3 && keyword("l")) {
                n++;
            }
            dropSpace();
            return n;
        }

        /** The dimension that begins with t behind its signs; order tells that of a stretch. */
        private int dimensionFrom(int t, boolean minus, boolean stretch) {
            int m = meaning(t);
            if (quantity(m) >= LENGTH) {
                int v = lengthOf(m & LOW);
                order = 0;
                return minus ? -v : v;
            }
            long v = factor(t);
            long by = divisor;
            int fils = stretch ? fils() : 0;
            if (fils > 0) {
                if (v >= 16384 * by) {
                    state.fail(7);
                }
                v = v * 65536;
            } else {
                long unit = unit();
                if (divisor != 0 && v >= 32768 * by) {
                    state.fail(7);
                }
                by = divisor == 0 ? by : by * divisor;
                v = v * unit;
            }
            long far = v < 0 ? -v : v;
            long nearest = far / by + (far % by * 2 >= by ? 1 : 0);
            if (nearest > GREATEST) {
                state.fail(7);
            }
            order = fils;
            return (int) (minus != v < 0 ? -nearest : nearest);
        }

        private void readGlue() {
            int t = afterSigns();
            boolean minus = less;
            int m = meaning(t);
            if (quantity(m) == GLUE_QUANTITY) {
                int from = variable(m & LOW);
                System.arraycopy(state.value, from, glue, 0, 4);
                if (minus) {
                    if (glue[1] != 0 || glue[3] != 0) {
                        state.fail(7);
                    }
                    glue[0] = -glue[0];
                }
                return;
            }
            int width = dimensionFrom(t, minus, false);
            int stretch = 0;
            int stretchOrder = 0;
            int shrink = 0;
            if (keyword("plus")) {
                t = afterSigns();
                stretch = dimensionFrom(t, less, true);
                stretchOrder = stretch == 0 ? 0 : order;
            }
            if (stretch >= 0 && keyword("minus")) {
                t = afterSigns();
                shrink = dimensionFrom(t, less, false);
            }
            if (stretch < 0 || shrink < 0) {
                state.fail(7);
            }
            glue[0] = width;
            glue[1] = stretch;
            glue[2] = stretchOrder;
            glue[3] = shrink;
        }

        /** What is set globally behind global. */
        private int prefixed() {
            for (int guard = 0; guard < FAR; guard++) {
                int t = expanded(true);
                int m = meaning(t);
                if (t == SPACE || m == (PRIMITIVE | RELAX) || m == (PRIMITIVE | GLOBAL)) {
                    continue;
                }
                int p = m & LOW;
                if (m >> 16 != PRIMITIVE >> 16 || p < SETBOX || p > PARFILLSKIP) {
                    state.fail(6);
                }
                return p;
            }
            return RELAX;
        }

        private void skipEquals() {
            int t = noSpace();
            if (t != EQUALS) {
                reader.put(t);
            }
        }

        /** A token but spaces and what means relax. */
        private int noRelax() {
            for (int guard = 0; guard < FAR; guard++) {
                int t = expanded(true);
                if (t != SPACE && meaning(t) != (PRIMITIVE | RELAX)) {
                    return t;
                }
            }
            return SPACE;
        }
    }

    /** Boxes: how they are packed, and the marks that they come to. */
    private static final class Boxes {
        private static final int DEEPEST = 10;
        private static final int NATURAL = 0;
        private static final int TO = 1;
        private static final int BY = 2;
        private static final int MARK_INTS = 5;
        private static final int NO_PLACE = 2000000000;

        private final State state;
        private final Fonts fonts;
        private final int[] items = new int[PACKED_ITEMS * ITEM];
        private int itemCount;
        private int boxes;
        private final boolean[] along = new boolean[MOST_BOXES];
        private final int[] width = new int[MOST_BOXES];
        private final int[] height = new int[MOST_BOXES];
        private final int[] depth = new int[MOST_BOXES];
        private final int[] first = new int[MOST_BOXES + 1];
        private final int[] excess = new int[MOST_BOXES];
        private final int[] order = new int[MOST_BOXES];
        private final int[] total = new int[MOST_BOXES];
        private final int[] deep = new int[MOST_BOXES];
        private final int[] all = new int[MOST_BOXES];
        // The stretch of each order, and the shrink, of the list that is being packed.
        private final long[] give = new long[5];
        // The marks of a page: font and character or -1 for a rule, x, y, width, height.
        private final int[] marks = new int[MOST_MARKS * MARK_INTS];
        private int markCount;

        private Boxes(State state, Fonts fonts) {
            this.state = state;
            this.fonts = fonts;
        }

        private void begin() {
            itemCount = 0;
            boxes = 0;
        }

        /** An item comes to the list that will be packed next. */
        private void add(int kind, int a, int b, int c, int d) {
            if (itemCount >= PACKED_ITEMS) {
                state.fail(2);
            }
            putItem(items, itemCount, kind, a, b, c, d);
            itemCount++;
        }

        private void addGlue(int from) {
            add(GLUE, state.value[from], state.value[from + 1], state.value[from + 2], state.value[from + 3]);
        }

        private void addLeaf(int code) {
            int font = code >> 8;
            int c = code & 255;
            add(LEAF, code, fonts.width(font, c), fonts.height(font, c), fonts.depth(font, c));
        }

        /** Items of another row, but for penalties and hyphens. */
        private void addAll(int[] row, int from, int to) {
            for (int i = from; i < to; i++) {
                int at = i * ITEM;
                if (row[at] < PENALTY) {
                    add(row[at], row[at + 1], row[at + 2], row[at + 3], row[at + 4]);
                }
            }
        }

        /** Packs the items that were added since the last box. */
        private int pack(boolean isAlong, int how, int given) {
            if (boxes >= MOST_BOXES) {
                state.fail(2);
            }
            int box = boxes;
            along[box] = isAlong;
            first[box + 1] = itemCount;
            countWithin(box);
            Arrays.fill(give, 0);
            long length = isAlong ? measureAlong(box) : measureBelow(box);
            long far = how == NATURAL ? 0 : how == TO ? given - length : given;
            length = sized(length + sized(far));
            boolean overfull = settle(box, far);
            if (isAlong) {
                width[box] = (int) length;
            } else {
                height[box] = (int) length;
            }
            boxes++;
            state.told[2]++;
            state.told[3] += itemCount - first[box];
            state.told[5] += overfull ? 1 : 0;
            return box;
        }

        private void countWithin(int box) {
            int deepest = 0;
            int sum = itemCount - first[box];
            for (int i = first[box]; i < itemCount; i++) {
                if (items[i * ITEM] == BOX) {
                    int inner = items[i * ITEM + 1];
                    deepest = Math.max(deepest, deep[inner]);
                    // More than a page may have is enough to know.
                    sum = Math.min(sum + all[inner], FAR);
                }
            }
            if (deepest >= DEEPEST) {
                state.fail(2);
            }
            deep[box] = deepest + 1;
            all[box] = sum;
        }

        private long sized(long v) {
            if (v > GREATEST || v < -GREATEST) {
                state.fault = 16;
                throw new IllegalStateException();
            }
            return v;
        }

        private void addGive(int at) {
            int k = items[at + 3];
            give[k] = sized(give[k] + items[at + 2]);
            give[4] = sized(give[4] + items[at + 4]);
        }

        private static int still(int size) {
            return size == RUNNING ? 0 : size;
        }

        private long measureAlong(int box) {
            long length = 0;
            long up = 0;
            long down = 0;
            for (int i = first[box]; i < itemCount; i++) {
                int at = i * ITEM;
                int kind = items[at];
                if (kind == GLUE || kind == KERN) {
                    length = sized(length + items[at + 1]);
                    if (kind == GLUE) {
                        addGive(at);
                    }
                } else if (kind == BOX) {
                    int inner = items[at + 1];
                    length = sized(length + width[inner]);
                    up = Math.max(up, sized((long) height[inner] - items[at + 2]));
                    down = Math.max(down, sized((long) depth[inner] + items[at + 2]));
                } else {
                    length = sized(length + still(items[at + 2]));
                    up = Math.max(up, still(items[at + 3]));
                    down = Math.max(down, still(items[at + 4]));
                }
            }
            height[box] = (int) sized(up);
            depth[box] = (int) sized(down);
            return length;
        }

        private long measureBelow(int box) {
            long length = 0;
            long last = 0;
            long wide = 0;
            for (int i = first[box]; i < itemCount; i++) {
                int at = i * ITEM;
                int kind = items[at];
                length = sized(length + last);
                if (kind == GLUE || kind == KERN) {
                    length = sized(length + items[at + 1]);
                    last = 0;
                    if (kind == GLUE) {
                        addGive(at);
                    }
                } else if (kind == BOX) {
                    int inner = items[at + 1];
                    length = sized(length + height[inner]);
                    last = depth[inner];
                    wide = Math.max(wide, sized((long) width[inner] + items[at + 2]));
                } else {
                    length = sized(length + still(items[at + 3]));
                    last = still(items[at + 4]);
                    wide = Math.max(wide, still(items[at + 2]));
                }
            }
            width[box] = (int) sized(wide);
            depth[box] = (int) sized(last);
            return length;
        }

        /** Keeps what the glue of the box must do: whether it is overfull. */
        private boolean settle(int box, long far) {
            int k = 0;
            long sum = far < 0 ? give[4] : 0;
            if (far > 0) {
                k = give[3] != 0 ? 3 : give[2] != 0 ? 2 : give[1] != 0 ? 1 : 0;
                sum = give[k];
            }
            boolean overfull = far < 0 && sum < -far;
            order[box] = k;
            total[box] = (int) sum;
            excess[box] = (int) (overfull ? -sum : far);
            return overfull;
        }

        private void addMark(int code, long x, long y, int wide, int high) {
            if (markCount < MOST_MARKS) {
                int at = markCount * MARK_INTS;
                marks[at] = code;
                marks[at + 1] = (int) Math.max(-NO_PLACE, Math.min(NO_PLACE, x));
                marks[at + 2] = (int) Math.max(-NO_PLACE, Math.min(NO_PLACE, y));
                marks[at + 3] = wide;
                marks[at + 4] = high;
            }
            markCount++;
        }

        private void addRule(long x, long y, int wide, int up, int down) {
            if (wide > 0 && (long) up + down > 0) {
                addMark(-1, x, y + down, wide, up + down);
            }
        }

        private void layOut(int box, long x, long y) {
            if (along[box]) {
                layAlong(box, x, y);
            } else {
                layBelow(box, x, y);
            }
        }

        /** What the glue at an item gives to the sum of which the box's glue has its share. */
        private int gives(int box, int at) {
            if (items[at] != GLUE) {
                return 0;
            }
            if (excess[box] < 0) {
                return items[at + 4];
            }
            return items[at + 3] == order[box] ? items[at + 2] : 0;
        }

        private void layAlong(int box, long x, long y) {
            long length = 0;
            long given = 0;
            for (int i = first[box]; i < first[box + 1]; i++) {
                int at = i * ITEM;
                long place = x + length + share(given, excess[box], total[box]);
                switch (items[at]) {
                    case LEAF:
                        addMark(items[at + 1], place, y, items[at + 2], 0);
                        length += items[at + 2];
                        break;
                    case RULE:
                        addRule(place, y, still(items[at + 2]), items[at + 3] == RUNNING ? height[box] : items[at + 3],
                            items[at + 4] == RUNNING ? depth[box] : items[at + 4]);
                        length += still(items[at + 2]);
                        break;
                    case BOX:
                        layOut(items[at + 1], place, y + items[at + 2]);
                        length += width[items[at + 1]];
                        break;
                    default:
                        length += items[at + 1];
                        given += gives(box, at);
                        break;
                }
            }
        }

        private void layBelow(int box, long x, long y) {
            long length = y - height[box];
            long last = 0;
            long given = 0;
            for (int i = first[box]; i < first[box + 1]; i++) {
                int at = i * ITEM;
                length += last;
                long place = length + share(given, excess[box], total[box]);
                if (items[at] == BOX) {
                    int inner = items[at + 1];
                    layOut(inner, x + items[at + 2], place + height[inner]);
                    length += height[inner];
                    last = depth[inner];
                } else if (items[at] == RULE) {
                    int up = still(items[at + 3]);
                    int wide = items[at + 2] == RUNNING ? width[box] : items[at + 2];
                    addRule(x, place + up, wide, up, still(items[at + 4]));
                    length += up;
                    last = still(items[at + 4]);
                } else {
                    length += items[at + 1];
                    last = 0;
                    given += gives(box, at);
                }
            }
        }
    }

    /** How a paragraph is broken into lines. */
    private static final class Breaker {
        private static final int NODE = 4; // place, lines, fit, former
        private static final int SUM = 4; // width, stretch of order 0, of higher orders, shrink
        private static final int OVERFULL = 10001;
        private static final int MOST_LOOKS = 3000000;
        private static final int ROOM = PARAGRAPH_ITEMS + 4;
        private static final int WIDTH_RULE = 0;
        private static final int LINE_RULE = 1;
        private static final int DOUBLE_RULE = 2;
        private static final int FINAL_RULE = 3;
        private static final int ADJACENT_RULE = 4;
        private static final int RULES = 5;

        private final State state;
        private final Boxes boxes;
        private final int[] items = new int[ROOM * ITEM];
        private int last;
        // Sums of all items before each one, and of what every line has.
        private final long[] sums = new long[(ROOM + 1) * SUM];
        private final long[] base = new long[SUM];
        // The first item from each one on that a line may begin with; the penalty of each place to break.
        private final int[] kept = new int[ROOM + 1];
        private final int[] penalty = new int[ROOM];
        private final int[] rules = new int[RULES];
        private final int[] nodes = new int[(MOST_NODES + 1) * NODE];
        private final long[] totals = new long[MOST_NODES + 1];
        private int nodeCount;
        private final int[] active = new int[MOST_NODES + 1];
        private int alive;
        // The best way to each number of lines and fit at the place that is being looked at.
        private final long[] best = new long[(ROOM + 1) * 4];
        private final int[] bestFormer = new int[(ROOM + 1) * 4];
        private final int[] keys = new int[(ROOM + 1) * 4];
        private int keyCount;
        private final int[] breaks = new int[ROOM];
        private int lines;

        private Breaker(State state, Boxes boxes) {
            this.state = state;
            this.boxes = boxes;
            Arrays.fill(bestFormer, -1);
        }

        /** A paragraph's items; FAULT 2 or 16 if they are too many or too large. */
        private void take(int[] row, int from, int to) {
            int n = to - from;
            if (n > PARAGRAPH_ITEMS) {
                state.fail(2);
            }
            System.arraycopy(row, from * ITEM, items, 0, n * ITEM);
            checkSizes(n);
            if (n > 0 && items[(n - 1) * ITEM] == GLUE) {
                n--;
            }
            int fill = State.glueOf(PARFILLSKIP);
            int[] v = state.value;
            putItem(items, n, PENALTY, FORBIDDEN, 0, 0, 0);
            putItem(items, n + 1, GLUE, v[fill], v[fill + 1], v[fill + 2], v[fill + 3]);
            putItem(items, n + 2, PENALTY, FORCED, 0, 0, 0);
            last = n + 2;
            sumUp();
            findPlaces();
        }

        private int widthOf(int at) {
            int kind = items[at];
            if (kind == LEAF || kind == RULE) {
                return Boxes.still(items[at + 2]);
            }
            if (kind == BOX) {
                return boxes.width[items[at + 1]];
            }
            return kind == GLUE || kind == KERN ? items[at + 1] : 0;
        }

        /** The width of what stands before the break at a hyphen. */
        private int widthBefore(int at) {
            return items[at] == HYPHEN ? items[at + 3] : 0;
        }

        private void checkSizes(int n) {
            long wide = 0;
            long stretch = within(state.length(EMERGENCYSTRETCH), 0, GREATEST);
            long shrink = 0;
            for (int i = 0; i < n; i++) {
                int at = i * ITEM;
                wide += Math.abs((long) widthOf(at)) + Math.abs((long) widthBefore(at));
                if (items[at] == GLUE) {
                    stretch += items[at + 2];
                    shrink += items[at + 4];
                }
            }
            for (int p = LEFTSKIP; p <= PARFILLSKIP; p++) {
                int from = State.glueOf(p);
                wide += Math.abs((long) state.value[from]);
                stretch += state.value[from + 1];
                shrink += state.value[from + 3];
            }
            if (!isSize(wide) || !isSize(stretch) || !isSize(shrink)) {
                state.fail(16);
            }
        }

        private void sumUp() {
            for (int i = 0; i <= last; i++) {
                int at = i * ITEM;
                int from = i * SUM;
                boolean glue = items[at] == GLUE;
                boolean higher = glue && items[at + 3] > 0;
                sums[from + 4] = sums[from] + widthOf(at);
                sums[from + 5] = sums[from + 1] + (glue && !higher ? items[at + 2] : 0);
                sums[from + 6] = sums[from + 2] + (higher ? items[at + 2] : 0);
                sums[from + 7] = sums[from + 3] + (glue ? items[at + 4] : 0);
            }
        }

        private void findPlaces() {
            kept[last + 1] = last + 1;
            for (int i = last; i >= 0; i--) {
                int at = i * ITEM;
                boolean left = items[at] == GLUE || items[at] == PENALTY || items[at] == KERN && items[at + 2] == 1;
                kept[i] = left ? kept[i + 1] : i;
                penalty[i] = isPlace(i) ? penaltyOf(at) : FORBIDDEN;
            }
        }

        private int penaltyOf(int at) {
            if (items[at] == PENALTY) {
                return items[at + 1];
            }
            if (items[at] != HYPHEN) {
                return 0;
            }
            return within(state.counter(items[at + 1] >= 0 ? HYPHENPENALTY : EXHYPHENPENALTY), FORCED, FORBIDDEN);
        }

        private boolean isReplaced(int i) {
            return i > 0 && items[(i - 1) * ITEM] == HYPHEN && items[(i - 1) * ITEM + 2] > 0;
        }

        private boolean isPlace(int i) {
            int at = i * ITEM;
            if (isReplaced(i)) {
                return false;
            }
            switch (items[at]) {
                case GLUE:
                    if (i == 0) {
                        return false;
                    }
                    int before = items[at - ITEM];
                    return before <= BOX || before == HYPHEN || before == KERN && items[at - ITEM + 2] == 0;
                case KERN:
                    return items[at + 2] == 1 && i < last && items[at + ITEM] == GLUE;
                default:
                    return items[at] == PENALTY || items[at] == HYPHEN;
            }
        }

        /** Breaks the paragraph that was taken: its lines and breaks are there then. */
        private void run() {
            int looseness = within(state.counter(LOOSENESS), -100, 100);
            int first = within(state.counter(PRETOLERANCE), -1, 10000);
            int tolerance = within(state.counter(TOLERANCE), 0, 10000);
            int more = within(state.length(EMERGENCYSTRETCH), 0, GREATEST);
            rules[WIDTH_RULE] = state.length(HSIZE);
            rules[LINE_RULE] = within(state.counter(LINEPENALTY), -10000, 10000);
            rules[DOUBLE_RULE] = within(state.counter(DOUBLEHYPHENDEMERITS), -1000000, 1000000);
            rules[FINAL_RULE] = within(state.counter(FINALHYPHENDEMERITS), -1000000, 1000000);
            rules[ADJACENT_RULE] = within(state.counter(ADJDEMERITS), -1000000, 1000000);
            int chosen = -1;
            if (first >= 0) {
                pass(first, false, 0, false);
                chosen = choose(looseness, false);
            }
            if (chosen < 0) {
                pass(tolerance, true, 0, more == 0);
                chosen = choose(looseness, more == 0);
            }
            if (chosen < 0) {
                pass(tolerance, true, more, true);
                chosen = choose(looseness, true);
            }
            tell(chosen);
        }

        private void tell(int chosen) {
            lines = chosen < 0 ? 0 : nodes[chosen * NODE + 1];
            int node = chosen;
            for (int i = lines - 1; i >= 0; i--) {
                breaks[i] = nodes[node * NODE];
                state.told[6] += items[breaks[i] * ITEM] == HYPHEN ? 1 : 0;
                node = nodes[node * NODE + 3];
            }
            state.told[4] += lines;
            state.told[7] += nodeCount - 1;
        }

        private void pass(int tolerance, boolean hyphens, int more, boolean isLast) {
            Arrays.fill(base, 0);
            base[1] = more;
            for (int p = LEFTSKIP; p <= RIGHTSKIP; p++) {
                int from = State.glueOf(p);
                base[0] += state.value[from];
                base[state.value[from + 2] == 0 ? 1 : 2] += state.value[from + 1];
                base[3] += state.value[from + 3];
            }
            // A fault may have left keys of an earlier paragraph.
            for (int i = 0; i < keyCount; i++) {
                bestFormer[keys[i]] = -1;
            }
            nodeCount = 0;
            alive = 0;
            addNode(-1, 0, 2, -1, 0);
            for (int i = 0; i <= last && alive > 0; i++) {
                if (penalty[i] < FORBIDDEN && (hyphens || items[i * ITEM] != HYPHEN)) {
                    visit(i, tolerance, isLast);
                }
            }
        }

        private void addNode(int place, int number, int fit, int former, long total) {
            int at = nodeCount * NODE;
            nodes[at] = place;
            nodes[at + 1] = number;
            nodes[at + 2] = fit;
            nodes[at + 3] = former;
            totals[nodeCount] = total;
            active[alive] = nodeCount;
            alive++;
            nodeCount++;
        }

        /** Looks at all lines to place e, and makes its nodes. */
        private void visit(int e, int tolerance, boolean isLast) {
            boolean forced = penalty[e] <= FORCED;
            state.looks += alive;
            if (state.looks > MOST_LOOKS) {
                state.fail(2);
            }
            int kept = 0;
            int rescue = -1;
            int rescueFit = 0;
            int known = -2;
            int bad = 0;
            int fit = 0;
            keyCount = 0;
            for (int i = 0; i < alive; i++) {
                int node = active[i];
                if (nodes[node * NODE] != known) {
                    // Nodes at one place have the same line to e.
                    known = nodes[node * NODE];
                    int verdict = judge(known, e);
                    bad = verdict / 4;
                    fit = verdict % 4;
                }
                if (bad <= tolerance) {
                    offer(node, e, bad, fit);
                }
                if (bad < OVERFULL && !forced) {
                    active[kept] = node;
                    kept++;
                } else if (rescue < 0 || rescues(node, rescue)) {
                    rescue = node;
                    rescueFit = fit;
                }
            }
            alive = kept;
            boolean rescued = isLast && kept == 0 && keyCount == 0;
            if (nodeCount + keyCount + (rescued ? 1 : 0) > MOST_NODES + 1) {
                state.fail(2);
            }
            makeNodes(e);
            if (rescued) {
                addNode(e, nodes[rescue * NODE + 1] + 1, rescueFit, rescue, totals[rescue]);
            }
        }

        private void makeNodes(int e) {
            for (int i = 0; i < keyCount; i++) {
                int key = keys[i];
                int former = bestFormer[key];
                bestFormer[key] = -1;
                addNode(e, key / 4, key % 4, former, best[key]);
            }
        }

        private boolean rescues(int node, int other) {
            int a = node * NODE;
            int b = other * NODE;
            if (nodes[a + 1] != nodes[b + 1]) {
                return nodes[a + 1] > nodes[b + 1];
            }
            return precedes(node, other);
        }

        /** The first item of a line from place a, or from the beginning. */
        private int firstBehind(int a) {
            if (a < 0) {
                return 0;
            }
            return items[a * ITEM] == HYPHEN ? kept[a + 1 + items[a * ITEM + 2]] : kept[a];
        }

        /** Four times the badness of the line from a to e, and its fit. */
        private int judge(int a, int e) {
            int from = Math.min(firstBehind(a), e) * SUM;
            int to = e * SUM;
            long wide = base[0] + sums[to] - sums[from] + widthBefore(e * ITEM);
            long shortfall = rules[WIDTH_RULE] - wide;
            if (shortfall > 0) {
                if (base[2] + sums[to + 2] - sums[from + 2] != 0) {
                    return 2;
                }
                int bad = badness(shortfall, base[1] + sums[to + 1] - sums[from + 1]);
                return bad * 4 + (bad > 99 ? 0 : bad > 12 ? 1 : 2);
            }
            long shrink = base[3] + sums[to + 3] - sums[from + 3];
            if (shrink < -shortfall) {
                return OVERFULL * 4 + 3;
            }
            int bad = badness(-shortfall, shrink);
            return bad * 4 + (bad > 12 ? 3 : 2);
        }

        /** A feasible line from a node to e. */
        private void offer(int node, int e, int bad, int fit) {
            int at = node * NODE;
            int p = penalty[e];
            long sum = rules[LINE_RULE] + bad;
            long demerits = sum >= 10000 ? 100000000 : sum * sum;
            if (p > 0) {
                demerits += (long) p * p;
            } else if (p > FORCED) {
                demerits -= (long) p * p;
            }
            boolean hyphen = nodes[at] >= 0 && items[nodes[at] * ITEM] == HYPHEN;
            if (hyphen && items[e * ITEM] == HYPHEN) {
                demerits += rules[DOUBLE_RULE];
            }
            if (hyphen && e == last) {
                demerits += rules[FINAL_RULE];
            }
            if (Math.abs(nodes[at + 2] - fit) > 1) {
                demerits += rules[ADJACENT_RULE];
            }
            long total = totals[node] + demerits;
            int key = (nodes[at + 1] + 1) * 4 + fit;
            int former = bestFormer[key];
            if (former < 0) {
                keys[keyCount] = key;
                keyCount++;
            } else if (total > best[key] || total == best[key] && !precedes(node, former)) {
                return;
            }
            best[key] = total;
            bestFormer[key] = node;
        }

        private boolean precedes(int node, int other) {
            int a = node * NODE;
            int b = other * NODE;
            return nodes[a] < nodes[b] || nodes[a] == nodes[b] && nodes[a + 2] > nodes[b + 2];
        }

        /** The chosen node at the end, or -1 if the pass failed. */
        private int choose(int looseness, boolean isLast) {
            int chosen = -1;
            for (int i = 0; i < alive; i++) {
                if (chosen < 0 || isBetter(active[i], chosen)) {
                    chosen = active[i];
                }
            }
            if (chosen < 0 || looseness == 0) {
                return chosen;
            }
            int least = nodes[chosen * NODE + 1];
            int wished = least + looseness;
            int nearest = least;
            for (int i = 0; i < alive; i++) {
                int n = nodes[active[i] * NODE + 1];
                boolean between = looseness > 0 ? n > nearest && n <= wished : n < nearest && n >= wished;
                nearest = between ? n : nearest;
            }
            if (nearest != wished && !isLast) {
                return -1;
            }
            chosen = -1;
            for (int i = 0; i < alive; i++) {
                boolean counts = nodes[active[i] * NODE + 1] == nearest;
                if (counts && (chosen < 0 || isBetter(active[i], chosen))) {
                    chosen = active[i];
                }
            }
            return chosen;
        }

        private boolean isBetter(int node, int other) {
            if (totals[node] != totals[other]) {
                return totals[node] < totals[other];
            }
            int a = node * NODE;
            int b = other * NODE;
            return nodes[a + 1] < nodes[b + 1] || nodes[a + 1] == nodes[b + 1] && nodes[a + 2] < nodes[b + 2];
        }
    }

    /** How pages are made of the items of the outer list. */
    private static final class Pages {
        private static final int AWFUL = 1073741823;

        private final State state;
        private final Boxes boxes;
        private final DviFile file;
        private final int[] items = new int[PAGE_ITEMS * ITEM];
        private int count;
        private boolean spilled;
        // The page's first box or -1, and the item that is looked at next.
        private int first;
        private int seen;
        private int best;
        private int bestCost;
        private int frameHeight;
        private int frameTop;
        private int frameDepth;
        // Of the list up to the item that is looked at; give has stretch of each order and shrink.
        private long length;
        private long depth;
        private final long[] give = new long[5];

        private Pages(State state, Boxes boxes, DviFile file) {
            this.state = state;
            this.boxes = boxes;
            this.file = file;
        }

        private void begin() {
            count = 0;
            spilled = false;
            first = -1;
            seen = 0;
        }

        /** One item too many is a fault only when those before it were looked at. */
        private void add(int kind, int a, int b, int c, int d) {
            if (count >= PAGE_ITEMS) {
                spilled = true;
                return;
            }
            putItem(items, count, kind, a, b, c, d);
            count++;
        }

        private boolean isBox(int i) {
            return items[i * ITEM] == BOX || items[i * ITEM] == RULE;
        }

        private int heightOf(int i) {
            int at = i * ITEM;
            return items[at] == BOX ? boxes.height[items[at + 1]] : Boxes.still(items[at + 3]);
        }

        private int depthOf(int i) {
            int at = i * ITEM;
            return items[at] == BOX ? boxes.depth[items[at + 1]] : Boxes.still(items[at + 4]);
        }

        /** Looks at what has come, and ships the pages that end. */
        private void look() {
            for (int guard = 0; guard < 100 * FAR && seen < count; guard++) {
                int kind = items[seen * ITEM];
                if (kind == KERN && seen + 1 >= count && first >= 0) {
                    break;
                }
                if (first < 0) {
                    if (isBox(seen)) {
                        beginPage();
                    }
                } else if (isBreak(seen) && endsAt(seen)) {
                    layOut(measure());
                    file.writePage();
                    state.set(COUNTS, state.value[COUNTS] + 1, true);
                    first = -1;
                    seen = best;
                    continue;
                }
                if (first >= 0) {
                    extend(seen);
                }
                seen++;
            }
            if (spilled) {
                state.fail(2);
            }
        }

        private void beginPage() {
            first = seen;
            frameHeight = Math.max(0, state.length(VSIZE));
            frameTop = state.value[State.glueOf(TOPSKIP)];
            frameDepth = Math.max(0, state.length(MAXDEPTH));
            bestCost = 2147483647;
            restart();
        }

        private void restart() {
            length = Math.max(0L, (long) frameTop - heightOf(first));
            depth = 0;
            Arrays.fill(give, 0);
        }

        private void extend(int i) {
            int at = i * ITEM;
            if (isBox(i)) {
                length += depth + heightOf(i);
                depth = depthOf(i);
                if (depth > frameDepth) {
                    length += depth - frameDepth;
                    depth = frameDepth;
                }
            } else if (items[at] != PENALTY) {
                length += depth + items[at + 1];
                depth = 0;
                if (items[at] == GLUE) {
                    give[items[at + 3]] += items[at + 2];
                    give[4] += items[at + 4];
                }
            }
        }

        private boolean isBreak(int i) {
            int at = i * ITEM;
            switch (items[at]) {
                case GLUE:
                    return isBox(i - 1);
                case KERN:
                    return i + 1 < count && items[at + ITEM] == GLUE;
                case PENALTY:
                    return items[at + 1] < FORBIDDEN;
                default:
                    return false;
            }
        }

        /** Whether the break before item i ends the page; best is the best break so far then. */
        private boolean endsAt(int i) {
            int p = items[i * ITEM] == PENALTY ? items[i * ITEM + 1] : 0;
            int bad = badnessHere();
            int cost = AWFUL;
            if (bad < AWFUL) {
                cost = p <= FORCED ? p : bad < 10000 ? bad + p : 100000;
            }
            if (cost <= bestCost) {
                best = i;
                bestCost = cost;
            }
            return cost == AWFUL || p <= FORCED;
        }

        private int badnessHere() {
            long e = frameHeight - length;
            if (e < 0) {
                return -e > give[4] ? AWFUL : badness(-e, give[4]);
            }
            return give[1] + give[2] + give[3] != 0 ? 0 : badness(e, give[0]);
        }

        /** Measures the page's list up to the best break: how wide it is. */
        private int measure() {
            int wide = 0;
            long inner = best - first;
            restart();
            for (int i = first; i < best; i++) {
                int at = i * ITEM;
                if (items[at] == BOX) {
                    inner += boxes.all[items[at + 1]];
                    wide = (int) Math.max(wide, Math.min(AWFUL, (long) boxes.width[items[at + 1]] + items[at + 2]));
                } else if (items[at] == RULE) {
                    wide = Math.max(wide, Boxes.still(items[at + 2]));
                }
                extend(i);
            }
            if (inner > PACKED_ITEMS) {
                state.fail(17);
            }
            return wide;
        }

        private void layOut(int wide) {
            long excess = frameHeight - length;
            int k = 4;
            if (excess > 0) {
                k = give[3] != 0 ? 3 : give[2] != 0 ? 2 : give[1] != 0 ? 1 : 0;
            }
            long total = give[k];
            excess = excess < -total ? -total : excess;
            boxes.markCount = 0;
            restart();
            for (int i = first; i < best; i++) {
                int at = i * ITEM;
                if (isBox(i)) {
                    long y = length + depth + heightOf(i) + share(give[k], excess, total);
                    if (items[at] == BOX) {
                        boxes.layOut(items[at + 1], items[at + 2], y);
                    } else {
                        boxes.addRule(0, y, items[at + 2] == RUNNING ? wide : items[at + 2],
                            Boxes.still(items[at + 3]), Boxes.still(items[at + 4]));
                    }
                }
                extend(i);
            }
            if (boxes.markCount > MOST_MARKS) {
                state.fail(17);
            }
        }
    }

    /** The file that printers read. */
    private static final class DviFile {
        private static final int RIGHT = 143;
        private static final int DOWN = 157;
        private static final int FARTHEST = 1000000000;
        private static final int PAGE_BEGIN = 139;
        private static final int PAGE_END = 140;
        private static final int RULE_PUT = 137;
        private static final int PUSH = 141;
        private static final int POP = 142;
        private static final int FONT_FIRST = 171;
        private static final int FONT_TOLD = 243;

        private final State state;
        private final Fonts fonts;
        private final Boxes boxes;
        private final byte[] bytes = new byte[MOST_BYTES + 4000];
        private int size;
        private int lastPage;
        private int greatestV;
        private int greatestH;
        private final int[] toldFonts = new int[100];
        private int toldCount;
        // The moves of a page right and down, and for each where the same comes again, or -1.
        private final int[] rights = new int[MOST_MARKS];
        private final int[] rightAgain = new int[MOST_MARKS];
        private final int[] downs = new int[MOST_MARKS];
        private final int[] downAgain = new int[MOST_MARKS];
        private final int[] heads = new int[1024];
        private final int[] links = new int[MOST_MARKS];
        // w, x, y, z, and the last move that each one was.
        private final int[] register = new int[4];
        private final int[] registerMove = new int[4];

        private DviFile(State state, Fonts fonts, Boxes boxes) {
            this.state = state;
            this.fonts = fonts;
            this.boxes = boxes;
        }

        private void begin() {
            size = 0;
            lastPage = -1;
            greatestV = 0;
            greatestH = 0;
            toldCount = 0;
            number(247, 1);
            number(2, 1);
            writeScale();
            number(0, 1);
        }

        private void writeScale() {
            number(25400000, 4);
            number(473628672, 4);
            number(1000, 4);
        }

        private void number(int v, int n) {
            for (int shift = 8 * (n - 1); shift >= 0; shift -= 8) {
                if (size < bytes.length) {
                    bytes[size] = (byte) (v >> shift);
                }
                size++;
            }
        }

        private void finish() {
            int post = size;
            number(248, 1);
            number(lastPage, 4);
            writeScale();
            number(greatestV, 4);
            number(greatestH, 4);
            number(state.told[1] > 0 ? 1 : 0, 2);
            number(state.told[1], 2);
            for (int i = toldCount - 1; i >= 0; i--) {
                tellFont(toldFonts[i]);
            }
            number(249, 1);
            number(post, 4);
            number(2, 1);
            int fill = 4 + Math.floorMod(-size, 4);
            for (int i = 0; i < fill; i++) {
                number(223, 1);
            }
        }

        private void tellFont(int font) {
            int slot = fonts.slot[font];
            number(FONT_TOLD, 1);
            number(font, 1);
            number(fonts.check[font], 4);
            number(fonts.scale[font], 4);
            number(fonts.design[font], 4);
            number(0, 1);
            number(slot < 10 ? 5 : 6, 1);
            number('f' << 24 | 'o' << 16 | 'n' << 8 | 't', 4);
            if (slot >= 10) {
                number('1', 1);
            }
            number('0' + slot % 10, 1);
        }

        /** Writes the marks as a page; all of it, or nothing if there is a fault. */
        private void writePage() {
            checkMarks();
            findMoves();
            int begun = size;
            int told = toldCount;
            number(PAGE_BEGIN, 1);
            for (int i = 0; i < 10; i++) {
                number(state.value[COUNTS + i], 4);
            }
            number(lastPage, 4);
            number(PUSH, 1);
            writeMarks();
            number(POP, 1);
            number(PAGE_END, 1);
            boolean large = size > MOST_BYTES;
            if (large || state.value[COUNTS] == 2147483647) {
                size = begun;
                toldCount = told;
                state.fail(large ? 17 : 7);
            }
            lastPage = begun;
            state.told[1]++;
            for (int i = 0; i < boxes.markCount; i++) {
                int at = i * Boxes.MARK_INTS;
                greatestV = Math.max(greatestV, boxes.marks[at + 2]);
                greatestH = Math.max(greatestH, behind(at));
            }
        }

        /** Where h is behind a mark. */
        private int behind(int at) {
            int x = boxes.marks[at + 1];
            return boxes.marks[at] < 0 ? x : x + boxes.marks[at + 3];
        }

        private void checkMarks() {
            for (int i = 0; i < boxes.markCount; i++) {
                int at = i * Boxes.MARK_INTS;
                int[] m = boxes.marks;
                long behind = (long) m[at + 1] + (m[at] < 0 ? 0 : m[at + 3]);
                if (isFar(m[at + 1]) || isFar(m[at + 2]) || isFar(behind)
                    || m[at] < 0 && (m[at + 3] > FARTHEST || m[at + 4] > FARTHEST)) {
                    state.fail(16);
                }
            }
        }

        private static boolean isFar(long v) {
            return v > FARTHEST || v < -FARTHEST;
        }

        private void findMoves() {
            int h = 0;
            int v = 0;
            int right = 0;
            int down = 0;
            for (int i = 0; i < boxes.markCount; i++) {
                int at = i * Boxes.MARK_INTS;
                if (boxes.marks[at + 2] != v) {
                    downs[down] = boxes.marks[at + 2] - v;
                    v = boxes.marks[at + 2];
                    down++;
                }
                if (boxes.marks[at + 1] != h) {
                    rights[right] = boxes.marks[at + 1] - h;
                    h = boxes.marks[at + 1];
                    right++;
                }
                h = behind(at);
            }
            findAgain(rights, rightAgain, right);
            findAgain(downs, downAgain, down);
        }

        /** From the last move on, those that were met are in chains by their value. */
        private void findAgain(int[] moves, int[] again, int n) {
            Arrays.fill(heads, -1);
            for (int i = n - 1; i >= 0; i--) {
                int h = (moves[i] ^ moves[i] >>> 10 ^ moves[i] >>> 20) & 1023;
                int k = heads[h];
                for (int guard = 0; guard < n && k >= 0 && moves[k] != moves[i]; guard++) {
                    k = links[k];
                }
                again[i] = k;
                links[i] = heads[h];
                heads[h] = i;
            }
        }

        private void writeMarks() {
            Arrays.fill(register, 0);
            int h = 0;
            int v = 0;
            int right = 0;
            int down = 0;
            int font = -1;
            for (int i = 0; i < boxes.markCount; i++) {
                int at = i * Boxes.MARK_INTS;
                int code = boxes.marks[at];
                if (boxes.marks[at + 2] != v) {
                    move(downs, downAgain, down, 2);
                    v = boxes.marks[at + 2];
                    down++;
                }
                if (boxes.marks[at + 1] != h) {
                    move(rights, rightAgain, right, 0);
                    right++;
                }
                h = behind(at);
                if (code < 0) {
                    number(RULE_PUT, 1);
                    number(boxes.marks[at + 4], 4);
                    number(boxes.marks[at + 3], 4);
                    continue;
                }
                if (code >> 8 != font) {
                    font = code >> 8;
                    if (!isTold(font)) {
                        tellFont(font);
                        toldFonts[toldCount] = font;
                        toldCount++;
                    }
                    numberOrCoded(font, 64, FONT_FIRST);
                }
                numberOrCoded(code & 255, 128, 0);
            }
        }

        /** A number below the limit is one byte with the code, others have the byte behind these before them. */
        private void numberOrCoded(int v, int limit, int code) {
            if (v < limit) {
                number(code + v, 1);
            } else {
                number((code + limit) << 8 | v, 2);
            }
        }

        private boolean isTold(int font) {
            int i = 0;
            while (i < toldCount && toldFonts[i] != font) {
                i++;
            }
            return i < toldCount;
        }

        /** Writes a move, with the first of its two registers being r. */
        private void move(int[] moves, int[] again, int i, int r) {
            int d = moves[i];
            int code = r == 0 ? RIGHT : DOWN;
            for (int k = 0; k < 2; k++) {
                if (register[r + k] == d) {
                    number(code + 4 + 5 * k, 1);
                    registerMove[r + k] = i;
                    return;
                }
            }
            int bytesNeeded = d >= -128 && d < 128 ? 1 : d >= -32768 && d < 32768 ? 2
                : d >= -8388608 && d < 8388608 ? 3 : 4;
            if (again[i] >= 0) {
                for (int k = 0; k < 2; k++) {
                    boolean awaited = register[r + k] != 0 && again[registerMove[r + k]] >= 0;
                    if (!awaited) {
                        register[r + k] = d;
                        registerMove[r + k] = i;
                        number(code + 4 + 5 * k + bytesNeeded, 1);
                        number(d, bytesNeeded);
                        return;
                    }
                }
            }
            number(code + bytesNeeded - 1, 1);
            number(d, bytesNeeded);
        }
    }

    /** Does what tokens mean: words, paragraphs, boxes, rules, and all that is set. */
    private static final class Setter {
        private static final int MOST_LISTS = 204;
        private static final int LONGEST_WORD = 64;
        private static final int NO_DEPTH = RUNNING;
        private static final int JOB = 4; // how and to what size it is packed, what for, and its shift or register
        private static final int NO_BOX = -1;
        private static final int FOR_LIST = 0;
        private static final int FOR_REGISTER = 1;
        private static final int FOR_ALL = 2; // a register, globally

        private final State state;
        private final Patterns patterns;
        private final Expander expander;
        private final Reader reader;
        private final Fonts fonts;
        private final Boxes boxes;
        private final Breaker breaker;
        private final Pages pages;
        // The lists that are open, but for the outer one, stand one behind the other.
        private final int[] open = new int[OPEN_ITEMS * ITEM];
        private int openCount;
        private final int[] listMode = new int[MOST_LISTS];
        private final int[] listStart = new int[MOST_LISTS];
        private final int[] listDepth = new int[MOST_LISTS];
        private int lists;
        private final int[] word = new int[LONGEST_WORD];
        private int wordSize;
        private int wordFont;
        private final int[] jobs = new int[101 * JOB];
        // A box that is to be read next: its primitive, or RELAX for any; what for, and its shift or register.
        private int wanted;
        private int wantedFor;
        private int wantedWith;

        private Setter(State state, Patterns patterns, Expander expander, Breaker breaker, Pages pages) {
            this.state = state;
            this.patterns = patterns;
            this.expander = expander;
            this.reader = expander.reader;
            this.fonts = expander.fonts;
            this.boxes = expander.boxes;
            this.breaker = breaker;
            this.pages = pages;
        }

        private void begin(byte[] text, int n) {
            reader.begin(text, n);
            expander.begin();
            fonts.fonts = 0;
            boxes.begin();
            pages.begin();
            openCount = 0;
            lists = 0;
            openList(OUTER);
            wordSize = 0;
            wanted = NO_BOX;
        }

        private int lines() {
            return reader.line;
        }

        private void openList(int mode) {
            listMode[lists] = mode;
            listStart[lists] = openCount;
            listDepth[lists] = NO_DEPTH;
            lists++;
            expander.vertical = mode <= INNER;
        }

        private void closeList() {
            lists--;
            openCount = listStart[lists];
            expander.vertical = mode() <= INNER;
        }

        private int mode() {
            return listMode[lists - 1];
        }

        /** The run, up to its end or a fault. */
        private void work() {
            for (int guard = 0; guard < FAR; guard++) {
                int m = nextMeaning();
                int p = m >> 16 == PRIMITIVE >> 16 ? m & LOW : -1;
                if (p == END) {
                    break;
                }
                boolean printed = isPrinted(m);
                if (!printed && p != CHAR) {
                    endWord();
                }
                if (mode() == PARAGRAPH && (p == PAR || p >= VSKIP && p <= HRULE || closesBox(m))) {
                    endParagraph();
                } else if (mode() <= INNER && (printed || p >= CHAR && p <= SPACE_NAME)) {
                    beginParagraph(p != NOINDENT);
                    p = p == INDENT ? RELAX : p;
                }
                boolean global = p == GLOBAL;
                if (global) {
                    p = expander.prefixed();
                }
                if (printed) {
                    character(m & 255);
                } else if (p >= COUNT && p <= PARFILLSKIP) {
                    setQuantity(p, global);
                } else if (p >= ADVANCE && p <= DIVIDE) {
                    compute(p, global);
                } else if (p >= SETBOX && p <= CATCODE) {
                    assign(p, global);
                } else if (p >= CHAR && p <= COPY) {
                    typeset(p);
                } else if (closesBox(m)) {
                    closeBox();
                } else {
                    doPlain(m, p);
                }
                if (isWordFull()) {
                    endWord();
                }
                if (wanted != NO_BOX) {
                    readBox();
                }
                pages.look();
            }
            endWord();
            if (mode() == PARAGRAPH) {
                endParagraph();
            }
            if (state.groups > 0 || expander.open > 0) {
                state.fail(9);
            }
            pages.add(GLUE, 0, 65536, 2, 0);
            pages.look();
            pages.add(PENALTY, FORCED, 0, 0, 0);
            pages.look();
        }

        /** What the next token that is to be done means; the end of the source means end. */
        private int nextMeaning() {
            int t = expander.expanded(false);
            if (t < 0) {
                return PRIMITIVE | END;
            }
            state.tick();
            return expander.meaning(t);
        }

        private boolean isPrinted(int m) {
            return m >> 16 == NUMBER >> 16 || m >> 16 == CHARACTER >> 16 && (m >> 8 & 15) >= 11;
        }

        private boolean closesBox(int m) {
            return m >> 8 == (CHARACTER >> 8 | 2) && state.groups > 0 && state.groupKind[state.groups] == BOXED;
        }

        /** An item comes to the list there is. */
        private void add(int kind, int a, int b, int c, int d) {
            if (lists == 1) {
                pages.add(kind, a, b, c, d);
                return;
            }
            if (openCount >= OPEN_ITEMS) {
                state.fail(2);
            }
            putItem(open, openCount, kind, a, b, c, d);
            openCount++;
        }

        private void addGlue(int from) {
            add(GLUE, state.value[from], state.value[from + 1], state.value[from + 2], state.value[from + 3]);
        }

        private void addBox(int box, int shift) {
            if (mode() > INNER) {
                add(BOX, box, shift, 0, 0);
                return;
            }
            int before = listDepth[lists - 1];
            if (before != NO_DEPTH) {
                int from = State.glueOf(BASELINESKIP);
                long width = (long) state.value[from] - before - boxes.height[box];
                if (!isSize(width)) {
                    state.fail(16);
                }
                if (width < state.length(LINESKIPLIMIT)) {
                    from = State.glueOf(LINESKIP);
                    width = state.value[from];
                }
                add(GLUE, (int) width, state.value[from + 1], state.value[from + 2], state.value[from + 3]);
            }
            add(BOX, box, shift, 0, 0);
            listDepth[lists - 1] = boxes.depth[box];
        }

        private void addIndent() {
            add(BOX, boxes.pack(true, Boxes.TO, state.length(PARINDENT)), 0, 0, 0);
        }

        private void beginParagraph(boolean indented) {
            if (mode() == OUTER || openCount > listStart[lists - 1]) {
                addGlue(State.glueOf(PARSKIP));
            }
            pages.look();
            openList(PARAGRAPH);
            if (indented) {
                addIndent();
            }
        }

        private void endParagraph() {
            int from = listStart[lists - 1];
            int to = openCount;
            closeList();
            if (from == to) {
                return;
            }
            breaker.take(open, from, to);
            breaker.run();
            state.set(NAMED_COUNTS + LOOSENESS, 0, false);
            int before = -1;
            for (int i = 0; i < breaker.lines; i++) {
                int e = breaker.breaks[i];
                boolean hyphen = breaker.items[e * ITEM] == HYPHEN;
                boxes.addGlue(State.glueOf(LEFTSKIP));
                boxes.addAll(breaker.items, breaker.firstBehind(before), e);
                if (hyphen && breaker.items[e * ITEM + 1] >= 0) {
                    boxes.addLeaf(breaker.items[e * ITEM + 1]);
                }
                boxes.addGlue(State.glueOf(RIGHTSKIP));
                addBox(boxes.pack(true, Boxes.TO, state.length(HSIZE)), 0);
                pages.look();
                if (i + 1 < breaker.lines) {
                    addPenalty(i == 0, i + 2 == breaker.lines, hyphen);
                    pages.look();
                }
                before = e;
            }
        }

        private void addPenalty(boolean club, boolean widow, boolean broken) {
            long sum = state.counter(INTERLINEPENALTY);
            sum += club ? state.counter(CLUBPENALTY) : 0;
            sum += widow ? state.counter(WIDOWPENALTY) : 0;
            sum += broken ? state.counter(BROKENPENALTY) : 0;
            if (sum != 0) {
                add(PENALTY, (int) Math.max(FORCED, Math.min(FORBIDDEN, sum)), 0, 0, 0);
            }
        }

        private void character(int c) {
            int font = state.value[FONT_NOW] - 1;
            if (!fonts.isThere(font, c)) {
                state.fail(14);
            }
            wordFont = font;
            word[wordSize] = c;
            wordSize++;
        }

        private boolean isWordFull() {
            return wordSize > 0 && (word[wordSize - 1] == '-' || wordSize == LONGEST_WORD);
        }

        private void endWord() {
            int size = wordSize;
            if (size == 0) {
                return;
            }
            wordSize = 0;
            int n = fonts.set(word, 0, size, wordFont, fonts.whole, fonts.wholeKerns);
            if (n < 0) {
                state.fail(2);
            }
            boolean paragraph = mode() == PARAGRAPH;
            Arrays.fill(fonts.hyphens, 0, n + 1, 0);
            if (paragraph && size < LONGEST_WORD && fonts.isThere(wordFont, '-') && patterns.takeWord(word, size)) {
                fonts.findHyphens(word, size, wordFont, n, patterns);
            }
            for (int i = 0; i < n; i++) {
                int c = fonts.whole[i];
                if (fonts.hyphens[i] > 0) {
                    addHyphen(wordFont, fonts.hyphens[i] - 1);
                }
                if (c < 0) {
                    add(KERN, fonts.wholeKerns[i], 0, 0, 0);
                } else {
                    add(LEAF, wordFont << 8 | c, fonts.width(wordFont, c), fonts.height(wordFont, c),
                        fonts.depth(wordFont, c));
                }
            }
            if (paragraph && word[size - 1] == '-') {
                add(HYPHEN, -1, 0, 0, 0);
            }
        }

        /** A hyphen before which character 45 of the font stands, if it is there. */
        private void addHyphen(int font, int replaced) {
            if (fonts.isThere(font, '-')) {
                add(HYPHEN, font << 8 | '-', replaced, fonts.width(font, '-'), 0);
            } else {
                add(HYPHEN, -1, replaced, 0, 0);
            }
        }

        private void addSpace() {
            int font = state.value[FONT_NOW] - 1;
            if (font < 0) {
                state.fail(14);
            }
            add(GLUE, fonts.parameter(font, 2), Math.max(0, fonts.parameter(font, 3)), 0,
                Math.max(0, fonts.parameter(font, 4)));
        }

        /** What is neither typeset nor set: groups, fonts, spaces, and what can't be done. */
        private void doPlain(int m, int p) {
            switch (m >> 16) {
                case 0:
                    state.fail(11);
                    break;
                case FONT >> 16:
                    state.set(FONT_NOW, (m & LOW) + 1, false);
                    break;
                case CHARACTER >> 16:
                    doCategory(m >> 8 & 15);
                    break;
                default:
                    if (p == ENDCSNAME || p >= WD && p <= DP) {
                        state.fail(6);
                    } else if (p == BEGINGROUP) {
                        state.openGroup(WORDS);
                    } else if (p == ENDGROUP) {
                        closeGroup(WORDS);
                    }
                    break;
            }
        }

        private void doCategory(int category) {
            if (category == 1) {
                state.openGroup(BRACES);
            } else if (category == 2) {
                closeGroup(BRACES);
            } else if (category == 10) {
                if (mode() > INNER) {
                    addSpace();
                }
            } else {
                state.fail(category == 6 ? 12 : 15);
            }
        }

        private void closeGroup(int kind) {
            if (state.groups == 0 || state.groupKind[state.groups] != kind) {
                state.fail(13);
            }
            state.closeGroup();
        }

        private void typeset(int p) {
            boolean vertical = mode() <= INNER;
            if (p >= VSKIP && p <= HRULE && !vertical || p >= RAISE && p <= LOWER && vertical
                || p >= MOVELEFT && p <= MOVERIGHT && !vertical) {
                state.fail(15);
            }
            switch (p) {
                case CHAR:
                    character(expander.upTo(255));
                    break;
                case HSKIP:
                case VSKIP:
                    expander.readGlue();
                    add(GLUE, expander.glue[0], expander.glue[1], expander.glue[2], expander.glue[3]);
                    break;
                case HFIL:
                case VFIL:
                    add(GLUE, 0, 65536, 1, 0);
                    break;
                case HFILL:
                case VFILL:
                    add(GLUE, 0, 65536, 2, 0);
                    break;
                case HRULE:
                case VRULE:
                    addRule(p == HRULE);
                    break;
                case INDENT:
                    addIndent();
                    break;
                case HYPHEN_NAME:
                    if (mode() == PARAGRAPH) {
                        addHyphen(state.value[FONT_NOW] - 1, 0);
                    }
                    break;
                case SPACE_NAME:
                    addSpace();
                    break;
                case KERN_NAME:
                    int t = expander.afterSigns();
                    add(KERN, expander.dimensionFrom(t, expander.less, false), 1, 0, 0);
                    break;
                case PENALTY_NAME:
                    add(PENALTY, within(expander.number(), FORCED, FORBIDDEN), 0, 0, 0);
                    break;
                case NOINDENT:
                    break;
                default:
                    wantShifted(p);
                    break;
            }
        }

        private void wantShifted(int p) {
            wantedFor = FOR_LIST;
            wantedWith = 0;
            wanted = p;
            if (p < HBOX) {
                int t = expander.afterSigns();
                int shift = expander.dimensionFrom(t, expander.less, false);
                wantedWith = p == RAISE || p == MOVELEFT ? -shift : shift;
                wanted = RELAX;
            }
        }

        private void addRule(boolean lying) {
            int width = lying ? RUNNING : 26214;
            int height = lying ? 26214 : RUNNING;
            int depth = lying ? 0 : RUNNING;
            for (int guard = 0; guard < FAR; guard++) {
                int side = expander.keyword("width") ? 1 : expander.keyword("height") ? 2
                    : expander.keyword("depth") ? 3 : 0;
                if (side == 0) {
                    break;
                }
                int t = expander.afterSigns();
                int size = expander.dimensionFrom(t, expander.less, false);
                width = side == 1 ? size : width;
                height = side == 2 ? size : height;
                depth = side == 3 ? size : depth;
            }
            add(RULE, 0, width, height, depth);
            if (lying) {
                listDepth[lists - 1] = NO_DEPTH;
            }
        }

        /** Reads the box that is wanted, up to its list if it has one. */
        private void readBox() {
            int p = wanted;
            wanted = NO_BOX;
            if (p == RELAX) {
                int m = expander.meaning(expander.noRelax());
                p = m & LOW;
                if (m >> 16 != PRIMITIVE >> 16 || p < HBOX || p > COPY) {
                    state.fail(6);
                }
            }
            int use = wantedFor;
            int with = wantedWith;
            if (p >= BOX_NAME) {
                int from = BOXES + expander.upTo(255);
                int box = state.value[from] - 1;
                state.value[from] = p == BOX_NAME ? 0 : state.value[from];
                deliver(box, use, with);
                return;
            }
            int how = expander.keyword("to") ? Boxes.TO : expander.keyword("spread") ? Boxes.BY : Boxes.NATURAL;
            int size = 0;
            if (how != Boxes.NATURAL) {
                int t = expander.afterSigns();
                size = expander.dimensionFrom(t, expander.less, false);
            }
            if (expander.meaning(expander.noRelax()) >> 8 != (CHARACTER >> 8 | 1)) {
                state.fail(6);
            }
            state.openGroup(BOXED);
            int at = state.groups * JOB;
            jobs[at] = how;
            jobs[at + 1] = size;
            jobs[at + 2] = use;
            jobs[at + 3] = with;
            openList(p == HBOX ? LINE : INNER);
        }

        private void closeBox() {
            int at = state.groups * JOB;
            boolean along = mode() == LINE;
            boxes.addAll(open, listStart[lists - 1], openCount);
            int box = boxes.pack(along, jobs[at], jobs[at + 1]);
            closeList();
            state.closeGroup();
            deliver(box, jobs[at + 2], jobs[at + 3]);
        }

        /** A box, or -1 for a void one, goes where it was read for. */
        private void deliver(int box, int use, int with) {
            if (use != FOR_LIST) {
                state.set(BOXES + with, box + 1, use == FOR_ALL);
            } else if (box >= 0) {
                addBox(box, with);
            }
        }

        /** The name or active character that is to be set. */
        private int readName() {
            int t = reader.nextNoSpace() & ~MARK;
            if (t < ACTIVE) {
                state.fail(6);
            }
            return t >= NAME ? t & LOW : ACTIVES + (t & 255);
        }

        private void assign(int p, boolean global) {
            int name;
            switch (p) {
                case SETBOX:
                    wantedWith = expander.upTo(255);
                    expander.skipEquals();
                    wantedFor = global ? FOR_ALL : FOR_REGISTER;
                    wanted = RELAX;
                    break;
                case LET:
                    let(global);
                    break;
                case CHARDEF:
                    name = readName();
                    expander.skipEquals();
                    state.set(name, NUMBER | expander.upTo(255), global);
                    break;
                case FONT_NAME:
                    name = readName();
                    expander.skipEquals();
                    int slot = expander.upTo(15);
                    if (!fonts.slots[slot].loaded) {
                        state.fail(14);
                    }
                    int size = fonts.designOf(slot);
                    if (expander.keyword("at")) {
                        int t = expander.afterSigns();
                        size = expander.dimensionFrom(t, expander.less, false);
                    }
                    setFont(name, slot, size, global);
                    break;
                case CATCODE:
                    name = CATEGORIES + expander.upTo(255);
                    expander.skipEquals();
                    state.set(name, expander.upTo(15), global);
                    break;
                default:
                    define(p, global);
                    break;
            }
        }

        private void setFont(int name, int slot, int size, boolean global) {
            if (size < 1 || size > 134217727) {
                state.fail(7);
            }
            int font = fonts.find(slot, size);
            if (font < 0) {
                state.fail(2);
            }
            state.set(name, FONT | font, global);
        }

        private void let(boolean global) {
            int name = readName();
            int t = reader.nextNoSpace();
            if (t == Expander.EQUALS) {
                t = reader.next(true);
                if (t == SPACE) {
                    t = reader.next(true);
                }
            }
            state.set(name, expander.meaning(t), global);
        }

        private void define(int p, boolean global) {
            int name = readName();
            boolean expanding = p == EDEF || p == XDEF;
            reader.beginMacro();
            int parameters = readParameters();
            reader.beginBody();
            int depth = 0;
            for (int guard = 0; guard < FAR; guard++) {
                int t = expanding ? expander.expanded(true) : reader.next(true);
                if (t >> 8 == 1) {
                    depth++;
                } else if (t >> 8 == 2) {
                    depth--;
                    if (depth < 0) {
                        break;
                    }
                } else if (t >> 8 == 6) {
                    t = expanding ? expander.expanded(true) : reader.next(true);
                    int k = t - Expander.ZERO;
                    if (k >= 1 && k <= parameters) {
                        t = PARAMETER | k;
                    } else if (t >> 8 != 6) {
                        state.fail(12);
                    }
                }
                reader.store(t);
            }
            int macro = reader.endMacro();
            state.set(name, MACRO | macro, global || p == GDEF || p == XDEF);
        }

        /** Reads delimiters and parameters up to the brace that opens the body: how many parameters. */
        private int readParameters() {
            int n = 0;
            int t = reader.next(true);
            for (int guard = 0; guard < FAR && t >> 8 != 1; guard++) {
                if (t >> 8 == 2) {
                    state.fail(5);
                }
                if (t >> 8 == 6) {
                    t = reader.next(true);
                    n++;
                    if (n > 9 || t != Expander.ZERO + n) {
                        state.fail(12);
                    }
                    t = PARAMETER | n;
                }
                reader.store(t);
                t = reader.next(true);
            }
            return n;
        }

        private void setQuantity(int p, boolean global) {
            int kind = Expander.quantity(PRIMITIVE | p);
            int variable = expander.variable(p);
            expander.skipEquals();
            if (kind == GLUE_QUANTITY) {
                expander.readGlue();
                setGlue(variable, global);
            } else if (kind == LENGTH) {
                int t = expander.afterSigns();
                state.set(variable, expander.dimensionFrom(t, expander.less, false), global);
            } else {
                state.set(variable, expander.number(), global);
            }
        }

        private void setGlue(int variable, boolean global) {
            for (int i = 0; i < 4; i++) {
                state.set(variable + i, expander.glue[i], global);
            }
        }

        /** advance, multiply and divide. */
        private void compute(int p, boolean global) {
            int m = expander.meaning(expander.noSpace());
            int kind = Expander.quantity(m);
            if (kind == NO_QUANTITY || kind == BOX_SIZE) {
                state.fail(6);
            }
            int variable = expander.variable(m & LOW);
            expander.keyword("by");
            if (kind == GLUE_QUANTITY) {
                if (p == ADVANCE) {
                    expander.readGlue();
                    addToGlue(variable);
                } else {
                    scaleGlue(variable, p, expander.number());
                }
                setGlue(variable, global);
                return;
            }
            int by;
            if (p == ADVANCE && kind == LENGTH) {
                int t = expander.afterSigns();
                by = expander.dimensionFrom(t, expander.less, false);
            } else {
                by = expander.number();
            }
            int most = kind == LENGTH ? GREATEST : 2147483647;
            state.set(variable, computed(p, state.value[variable], by, -most, most), global);
        }

        private int computed(int p, int v, int by, int least, int most) {
            if (p == DIVIDE && by == 0) {
                state.fail(7);
            }
            long answer = p == ADVANCE ? (long) v + by : p == MULTIPLY ? (long) v * by : v / by;
            if (answer < least || answer > most) {
                state.fail(7);
            }
            return (int) answer;
        }

        /** What was read is added to the glue of a variable; the sum stands where it was read. */
        private void addToGlue(int variable) {
            int[] glue = expander.glue;
            int stretch = state.value[variable + 1];
            int order = state.value[variable + 2];
            glue[0] = computed(ADVANCE, state.value[variable], glue[0], -GREATEST, GREATEST);
            glue[3] = computed(ADVANCE, state.value[variable + 3], glue[3], 0, GREATEST);
            if (order == glue[2]) {
                glue[1] = computed(ADVANCE, stretch, glue[1], 0, GREATEST);
            } else if (order > glue[2]) {
                glue[1] = stretch;
                glue[2] = order;
            }
        }

        private void scaleGlue(int variable, int p, int by) {
            int[] glue = expander.glue;
            glue[0] = computed(p, state.value[variable], by, -GREATEST, GREATEST);
            glue[1] = computed(p, state.value[variable + 1], by, 0, GREATEST);
            glue[2] = glue[1] == 0 ? 0 : state.value[variable + 2];
            glue[3] = computed(p, state.value[variable + 3], by, 0, GREATEST);
        }
    }
}
