import java.util.Arrays;

/**
 * A memory of words that looks after itself.
 *
 * <p>Objects lie one behind the other in one row of words and are spoken of by where they begin. When the memory
 * is collected, all that a root leads to slides together towards the row's beginning, so a place that was read
 * before an object is made must be read again from its root afterwards.
 *
 * <p>Every object has a head of three words, then its links, its values (two words each: high, low) and its plain
 * words; texts are held in the same way, so that making and collecting need not tell them apart:
 *
 * <pre>
 *   a flat text or name  no links; plain: its length, its units (two in a word, the lower half first)
 *   a joined text        links: its parts; plain: its length
 *   a spread text        links: its flat text, nothing; plain: its length
 * </pre>
 */
public final class OwnMemory {
    private static final int ROOTS = 24;
    private static final int LEAST_LIMIT = 16;
    private static final int MOST_LIMIT = 1_048_576;
    private static final int MOST_LINKS = 8;
    private static final int MOST_VALUES = 8;
    private static final int MOST_PLAIN = 16;
    private static final int MOST_UNITS = 4_000;
    private static final int MOST_GIVEN_UNITS = 4;
    private static final int MOST_UNITS_JOINED_FLAT = 24;
    private static final int FIRST_WORDS = 256;
    /** So often doubled, a row of one word would reach the greatest limit. */
    private static final int MOST_DOUBLINGS = 20;
    private static final int FIRST_NAMES = 16;

    /** Where there is no object: no object begins at -1. */
    private static final int NOTHING = -1;

    private static final int NO_OBJECT = 0;
    private static final int BLOCK = 1;
    private static final int FLAT = 2;
    private static final int JOINED = 3;
    private static final int SPREAD = 4;
    private static final int NAME = 5;

    private static final int SHAPE = 0;
    /** Where the object will lie; nothing, but while a collection has found it to be there. */
    private static final int GOES_TO = 1;
    /** The next one in the chain that begins at waiting. */
    private static final int NEXT = 2;
    /** The least that an object takes: a walk over the row goes on by as much, and so ends, whatever it meets. */
    private static final int HEAD = 3;
    private static final int PARTS = 2;
    private static final int LEFT = HEAD;
    private static final int RIGHT = HEAD + 1;
    /** Where a flat text's units begin: behind its length. */
    private static final int UNITS = HEAD + 1;

    /** The highest 16 bits of a value that is a reference; its low word is where the object begins. */
    private static final int REFERENCE = 0xFFFA;
    private static final int UNIT_BITS = 16;
    private static final int UNIT_MASK = 0xFFFF;

    private final int limit;
    private int[] words;
    private int used;
    private final int[] roots;
    private int[] names;
    private int nameCount;
    /** Texts still to be copied while one is spread: each has a unit of its own at least, so they have room. */
    private final int[] pending;
    /** The first one in the chain of objects that a collection has still to look into. */
    private int waiting;
    private int stressEvery;
    /** How many objects were made since stress was told. */
    private int made;

    public OwnMemory(int limit) {
        this.limit = Math.max(LEAST_LIMIT, Math.min(limit, MOST_LIMIT));
        this.words = new int[Math.min(this.limit, FIRST_WORDS)];
        this.used = 0;
        this.roots = new int[ROOTS];
        Arrays.fill(this.roots, NOTHING);
        this.names = new int[FIRST_NAMES];
        this.nameCount = 0;
        this.pending = new int[MOST_UNITS];
        this.waiting = NOTHING;
        this.stressEvery = 0;
        this.made = 0;
    }

    // Blocks and roots

    public void take(int r, int links, int values, int plain) throws IllegalArgumentException, IllegalStateException {
        needRoot(r);
        if (!isUpTo(links, MOST_LINKS) || !isUpTo(values, MOST_VALUES) || !isUpTo(plain, MOST_PLAIN)) {
            throw new IllegalArgumentException("no such block");
        }
        roots[r] = make(BLOCK, links, values, plain);
    }

    public void copy(int r, int s) throws IllegalArgumentException {
        needRoot(r);
        needRoot(s);
        roots[r] = roots[s];
    }

    public void drop(int r) throws IllegalArgumentException {
        needRoot(r);
        roots[r] = NOTHING;
    }

    public int kind(int r) throws IllegalArgumentException {
        needRoot(r);
        return kindAt(roots[r]);
    }

    public boolean same(int r, int s) throws IllegalArgumentException {
        needRoot(r);
        needRoot(s);
        return roots[r] == roots[s];
    }

    public void tie(int r, int k, int s) throws IllegalArgumentException {
        int slot = linkSlot(r, k);
        needRoot(s);
        words[slot] = roots[s];
    }

    public void lead(int r, int k, int s) throws IllegalArgumentException {
        int slot = linkSlot(r, k);
        needRoot(s);
        roots[s] = words[slot];
    }

    public void number(int r, int k, long bits) throws IllegalArgumentException {
        int slot = valueSlot(r, k);
        int high = (int) (bits >>> 32);
        if (isReference(high)) {
            throw new IllegalArgumentException("kept for references");
        }
        words[slot] = high;
        words[slot + 1] = (int) bits;
    }

    public void refer(int r, int k, int s) throws IllegalArgumentException {
        int slot = valueSlot(r, k);
        needRoot(s);
        if (roots[s] == NOTHING) {
            throw new IllegalArgumentException("nothing to refer to");
        }
        words[slot] = REFERENCE << 16;
        words[slot + 1] = roots[s];
    }

    public long bits(int r, int k) throws IllegalArgumentException {
        int slot = valueSlot(r, k);
        if (isReference(words[slot])) {
            throw new IllegalArgumentException("a reference");
        }
        return ((long) words[slot] << 32) | (words[slot + 1] & 0xFFFFFFFFL);
    }

    public boolean follow(int r, int k, int s) throws IllegalArgumentException {
        int slot = valueSlot(r, k);
        needRoot(s);
        if (!isReference(words[slot])) {
            return false;
        }
        roots[s] = words[slot + 1];
        return true;
    }

    public void set(int r, int k, int v) throws IllegalArgumentException {
        words[plainSlot(r, k)] = v;
    }

    public int get(int r, int k) throws IllegalArgumentException {
        return words[plainSlot(r, k)];
    }

    // Texts and names

    public void text(int r, long units, int n) throws IllegalArgumentException, IllegalStateException {
        needRoot(r);
        if (!isUpTo(n, MOST_GIVEN_UNITS)) {
            throw new IllegalArgumentException("no such number of units");
        }
        int flat = makeFlat(FLAT, n);
        for (int k = 0; k < n; k++) {
            int behind = n - 1 - k;
            putUnit(flat, k, (int) (units >>> (UNIT_BITS * behind)) & UNIT_MASK);
        }
        roots[r] = flat;
    }

    public void join(int r, int a, int b) throws IllegalArgumentException, IllegalStateException {
        needRoot(r);
        needText(a);
        needText(b);
        int left = lengthIn(a);
        int right = lengthIn(b);
        if (left + right > MOST_UNITS) {
            throw new IllegalStateException("too many units");
        }
        if (left == 0) {
            roots[r] = roots[b];
        } else if (right == 0) {
            roots[r] = roots[a];
        } else if (left + right <= MOST_UNITS_JOINED_FLAT) {
            roots[r] = makeFlatOfTwo(a, b);
        } else {
            roots[r] = makeJoined(a, b);
        }
    }

    public void part(int r, int s, int from, int to) throws IllegalArgumentException, IllegalStateException {
        needRoot(r);
        needText(s);
        if (from < 0 || to < from || to > lengthIn(s)) {
            throw new IllegalArgumentException("no such part");
        }
        goOver(s);
        int flat = makeFlat(FLAT, to - from);
        copyUnits(flatOf(roots[s]), from, to, flat, 0);
        roots[r] = flat;
    }

    public int length(int r) throws IllegalArgumentException {
        needText(r);
        return lengthIn(r);
    }

    public int unit(int r, int k) throws IllegalArgumentException, IllegalStateException {
        needText(r);
        if (k < 0 || k >= lengthIn(r)) {
            throw new IllegalArgumentException("no such unit");
        }
        goOver(r);
        return unitAt(flatOf(roots[r]), k);
    }

    public int compare(int a, int b) throws IllegalArgumentException, IllegalStateException {
        needText(a);
        needText(b);
        goOver(a);
        goOver(b);
        int first = flatOf(roots[a]);
        int second = flatOf(roots[b]);
        int both = Math.min(lengthIn(a), lengthIn(b));
        for (int k = 0; k < both; k++) {
            int difference = unitAt(first, k) - unitAt(second, k);
            if (difference != 0) {
                return Integer.signum(difference);
            }
        }
        return Integer.signum(lengthIn(a) - lengthIn(b));
    }

    public void name(int r, int s) throws IllegalArgumentException, IllegalStateException {
        needRoot(r);
        needText(s);
        if (kindAt(roots[s]) == NAME) {
            roots[r] = roots[s];
            return;
        }
        goOver(s);
        // One that is not there any more but lies in the row still is as good as a new one: nobody can tell them
        // apart, and a new one would not be refused, as this one's words are within the limit where they lie.
        int known = findName(flatOf(roots[s]));
        roots[r] = known == NOTHING ? makeName(s) : known;
    }

    // Memory

    public int collect() {
        slideTogether();
        return used;
    }

    public void stress(int n) throws IllegalArgumentException {
        if (n < 0) {
            throw new IllegalArgumentException("below 0");
        }
        stressEvery = n;
        made = 0;
    }

    // What a call needs

    private static boolean isUpTo(int count, int most) {
        return count >= 0 && count <= most;
    }

    private static void needRoot(int r) {
        if (r < 0 || r >= ROOTS) {
            throw new IllegalArgumentException("no such root");
        }
    }

    private void needText(int r) {
        needRoot(r);
        int kind = kindAt(roots[r]);
        if (kind == NO_OBJECT || kind == BLOCK) {
            throw new IllegalArgumentException("no text");
        }
    }

    private int needBlock(int r) {
        needRoot(r);
        int block = roots[r];
        if (kindAt(block) != BLOCK) {
            throw new IllegalArgumentException("no block");
        }
        return block;
    }

    private int linkSlot(int r, int k) {
        int block = needBlock(r);
        if (k < 0 || k >= linksAt(block)) {
            throw new IllegalArgumentException("no such link");
        }
        return block + HEAD + k;
    }

    private int valueSlot(int r, int k) {
        int block = needBlock(r);
        if (k < 0 || k >= valuesAt(block)) {
            throw new IllegalArgumentException("no such value");
        }
        return block + HEAD + linksAt(block) + 2 * k;
    }

    private int plainSlot(int r, int k) {
        int block = needBlock(r);
        int before = HEAD + linksAt(block) + 2 * valuesAt(block);
        if (k < 0 || k >= sizeAt(block) - before) {
            throw new IllegalArgumentException("no such plain word");
        }
        return block + before + k;
    }

    // How objects lie in the row

    private static int shapeOf(int kind, int links, int values, int size) {
        return kind | (links << 4) | (values << 8) | (size << 12);
    }

    private int kindAt(int at) {
        return at == NOTHING ? NO_OBJECT : words[at + SHAPE] & 15;
    }

    private int linksAt(int at) {
        return (words[at + SHAPE] >> 4) & 15;
    }

    private int valuesAt(int at) {
        return (words[at + SHAPE] >> 8) & 15;
    }

    private int sizeAt(int at) {
        return words[at + SHAPE] >> 12;
    }

    private static boolean isReference(int high) {
        return high >>> 16 == REFERENCE;
    }

    // How texts are held

    private int lengthAt(int text) {
        return words[text + HEAD + linksAt(text)];
    }

    private void putLength(int text, int units) {
        words[text + HEAD + linksAt(text)] = units;
    }

    private int lengthIn(int r) {
        return lengthAt(roots[r]);
    }

    /** The flat text with the units of a text that is not joined, or has been gone over. */
    private int flatOf(int text) {
        return kindAt(text) == SPREAD ? words[text + LEFT] : text;
    }

    private int unitAt(int flat, int k) {
        return (words[flat + UNITS + k / 2] >>> (UNIT_BITS * (k % 2))) & UNIT_MASK;
    }

    /** Puts a unit where none has been put yet. */
    private void putUnit(int flat, int k, int unit) {
        words[flat + UNITS + k / 2] |= unit << (UNIT_BITS * (k % 2));
    }

    private void copyUnits(int source, int from, int to, int target, int at) {
        for (int k = from; k < to; k++) {
            putUnit(target, at + k - from, unitAt(source, k));
        }
    }

    private int makeFlat(int kind, int units) {
        int flat = make(kind, 0, 0, 1 + (units + 1) / 2);
        putLength(flat, units);
        return flat;
    }

    /** Both texts are flat, as no joined one has so few units. */
    private int makeFlatOfTwo(int a, int b) {
        int left = lengthIn(a);
        int right = lengthIn(b);
        int flat = makeFlat(FLAT, left + right);
        copyUnits(roots[a], 0, left, flat, 0);
        copyUnits(roots[b], 0, right, flat, left);
        return flat;
    }

    private int makeJoined(int a, int b) {
        int joined = make(JOINED, PARTS, 0, 1);
        putLength(joined, lengthIn(a) + lengthIn(b));
        words[joined + LEFT] = roots[a];
        words[joined + RIGHT] = roots[b];
        return joined;
    }

    private void goOver(int r) {
        if (kindAt(roots[r]) != JOINED) {
            return;
        }
        int flat = makeFlat(FLAT, lengthIn(r));
        int text = roots[r];
        copyAllUnits(text, flat);
        words[text + SHAPE] = shapeOf(SPREAD, PARTS, 0, sizeAt(text));
        words[text + LEFT] = flat;
        words[text + RIGHT] = NOTHING;
    }

    /** By a row of its own and not by recursion, as texts may be joined some thousand deep. */
    private void copyAllUnits(int text, int flat) {
        int done = 0;
        int count = 1;
        pending[0] = text;
        for (int steps = 2 * MOST_UNITS; steps > 0 && count > 0 && count < MOST_UNITS; steps--) {
            int next = pending[count - 1];
            if (kindAt(next) == JOINED) {
                pending[count - 1] = words[next + RIGHT];
                pending[count] = words[next + LEFT];
                count++;
            } else {
                copyUnits(flatOf(next), 0, lengthAt(next), flat, done);
                done += lengthAt(next);
                count--;
            }
        }
    }

    private int findName(int flat) {
        for (int i = 0; i < nameCount; i++) {
            if (hasSameUnits(names[i], flat)) {
                return names[i];
            }
        }
        return NOTHING;
    }

    /** Word by word from the length on: half a word that holds no unit is 0. */
    private boolean hasSameUnits(int flat, int other) {
        if (lengthAt(flat) != lengthAt(other)) {
            return false;
        }
        int size = sizeAt(flat);
        for (int i = UNITS; i < size; i++) {
            if (words[flat + i] != words[other + i]) {
                return false;
            }
        }
        return true;
    }

    private int makeName(int s) {
        int units = lengthIn(s);
        int name = makeFlat(NAME, units);
        copyUnits(flatOf(roots[s]), 0, units, name, 0);
        if (nameCount == names.length) {
            names = Arrays.copyOf(names, 2 * nameCount);
        }
        names[nameCount] = name;
        nameCount++;
        return name;
    }

    // How memory is made and collected

    private boolean isStressed() {
        return stressEvery > 0 && (made + 1) % stressEvery == 0;
    }

    /** A new object that leads nowhere; collects before it refuses, so that only what is there counts. */
    private int make(int kind, int links, int values, int plain) {
        int size = HEAD + links + 2 * values + plain;
        boolean tight = size > words.length - used;
        if (tight || isStressed()) {
            slideTogether();
        }
        if (size > limit - used) {
            throw new IllegalStateException("full");
        }
        if (tight) {
            widen(used + size);
        }
        int at = used;
        used += size;
        made++;
        Arrays.fill(words, at, used, 0);
        Arrays.fill(words, at + HEAD, at + HEAD + links, NOTHING);
        words[at + SHAPE] = shapeOf(kind, links, values, size);
        words[at + GOES_TO] = NOTHING;
        return at;
    }

    /** Leaves half the row free where the limit lets it, so that not every object that is made collects. */
    private void widen(int need) {
        int length = words.length;
        for (int times = 0; times < MOST_DOUBLINGS && length < 2 * need && length < limit; times++) {
            length += length;
        }
        if (length > words.length) {
            words = Arrays.copyOf(words, Math.min(length, limit));
        }
    }

    /** Lets all go that no root leads to, and moves all others down in the order in which they lie. */
    private void slideTogether() {
        touchRoots(false);
        for (int left = used; left > 0 && waiting != NOTHING; left--) {
            int at = waiting;
            waiting = words[at + NEXT];
            touchLeads(at, false);
        }
        int end = planMoves();
        keepNames();
        touchRoots(true);
        for (int at = 0; at < used; at += Math.max(HEAD, sizeAt(at))) {
            if (words[at + GOES_TO] != NOTHING) {
                touchLeads(at, true);
            }
        }
        moveAll();
        used = end;
    }

    private void touchRoots(boolean moving) {
        for (int r = 0; r < ROOTS; r++) {
            roots[r] = touch(roots[r], moving);
        }
    }

    private void touchLeads(int at, boolean moving) {
        int values = at + HEAD + linksAt(at);
        for (int slot = at + HEAD; slot < values; slot++) {
            words[slot] = touch(words[slot], moving);
        }
        int end = values + 2 * valuesAt(at);
        for (int slot = values; slot < end; slot += 2) {
            if (isReference(words[slot])) {
                words[slot + 1] = touch(words[slot + 1], moving);
            }
        }
    }

    /** What a lead is to be: as it was while objects are found, and where its object goes while they move. */
    private int touch(int at, boolean moving) {
        if (at == NOTHING) {
            return NOTHING;
        }
        if (moving) {
            return words[at + GOES_TO];
        }
        if (words[at + GOES_TO] == NOTHING) {
            words[at + GOES_TO] = at;
            words[at + NEXT] = waiting;
            waiting = at;
        }
        return at;
    }

    /** Says to each object that is there where it goes; answers where the last one will end. */
    private int planMoves() {
        int end = 0;
        for (int at = 0; at < used; at += Math.max(HEAD, sizeAt(at))) {
            if (words[at + GOES_TO] != NOTHING) {
                words[at + GOES_TO] = end;
                end += sizeAt(at);
            }
        }
        return end;
    }

    private void keepNames() {
        int kept = 0;
        for (int i = 0; i < nameCount; i++) {
            int to = words[names[i] + GOES_TO];
            if (to != NOTHING) {
                names[kept] = to;
                kept++;
            }
        }
        nameCount = kept;
    }

    private void moveAll() {
        int size = 0;
        for (int at = 0; at < used; at += Math.max(HEAD, size)) {
            size = sizeAt(at);
            int to = words[at + GOES_TO];
            words[at + GOES_TO] = NOTHING;
            if (to != NOTHING && to < at) {
                System.arraycopy(words, at, words, to, size);
            }
        }
    }
}
