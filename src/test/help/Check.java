import java.util.Objects;

/** What the tests share: calls with the answer that is due, and memories to call. */
class Check {
    static final Class<?> WRONG = IllegalArgumentException.class;
    static final Class<?> FULL = IllegalStateException.class;
    static final int NOTHING = 0;
    static final int BLOCK = 1;
    static final int FLAT = 2;
    static final int JOINED = 3;
    static final int SPREAD = 4;
    static final int NAME = 5;
    /** The first ones beyond 0 .. 23, and the ends of int. */
    static final int[] NO_ROOTS = {-1, 24, Integer.MIN_VALUE, Integer.MAX_VALUE};
    /** Roots of a furnished memory that hold no text. */
    static final int[] NO_TEXTS = {0, 1, 7, 8};
    /** Roots of a furnished memory that hold no block. */
    static final int[] NO_BLOCKS = {1, 2, 3, 4, 5, 6};
    static final int LIMIT = 400;
    private static final int FURNISHED = 9;
    private static final int LOOK = 22;
    private static final int BALLAST = 21;
    private static int wrong = 0;

    interface Call {
        Object run();
    }

    interface Act {
        void run();
    }

    interface CallOn {
        Object on(OwnMemory m);
    }

    interface ActOn {
        void on(OwnMemory m);
    }

    static Object answer(Call call) {
        try {
            return call.run();
        } catch (RuntimeException e) {
            return e.getClass();
        }
    }

    static void due(String what, Object want, Call call) {
        Object got = answer(call);
        if (!Objects.equals(got, want)) {
            wrong++;
            System.out.println(what + ": answered " + got + ", due is " + want);
        }
    }

    static void thrown(String what, Class<?> want, Act act) {
        due(what, want, () -> {
            act.run();
            return "done";
        });
    }

    static void done(String what, Act act) {
        due(what, "done", () -> {
            act.run();
            return "done";
        });
    }

    /** Call on a furnished memory gives what is wanted. */
    static void gives(String what, Object want, CallOn call) {
        OwnMemory m = furnished();
        due(what, want, () -> call.on(m));
    }

    /** The call throws IllegalArgumentException on a furnished memory, where nothing changes by it. */
    static void refused(String what, ActOn call) {
        OwnMemory m = furnished();
        refusedOn(m, what, WRONG, call);
    }

    /** The call throws what is wanted, and roots, links, values, plain words and texts stay. */
    static void refusedOn(OwnMemory m, String what, Class<?> want, ActOn call) {
        String before = picture(m);
        thrown(what, want, () -> call.on(m));
        due(what + ": nothing changes", before, () -> picture(m));
    }

    static void end() {
        System.out.println(wrong == 0 ? "all answers are as due" : wrong + " answers are not as due");
        if (wrong != 0) {
            System.exit(1);
        }
    }

    /**
     * Root 0 holds a block with two of each, 1 nothing, 2 a flat text (1 2 3), 3 a joined one of 26 units, 4 a spread
     * one of 26 units, 5 the name (1 2 3), 6 the empty text, 7 a block with nothing, 8 the largest block.
     */
    static OwnMemory furnished() {
        OwnMemory m = new OwnMemory(LIMIT);
        m.take(0, 2, 2, 2);
        m.text(2, 0x000100020003L, 3);
        m.tie(0, 0, 2);
        m.number(0, 0, 5);
        m.refer(0, 1, 2);
        m.set(0, 0, 7);
        m.set(0, 1, -7);
        m.text(9, 0x0001000200030004L, 4);
        m.join(9, 9, 9);
        m.join(10, 9, 9);
        m.join(9, 10, 9);
        m.text(10, 0x00080009L, 2);
        m.join(3, 9, 10);
        m.join(4, 10, 9);
        m.unit(4, 0);
        m.drop(9);
        m.drop(10);
        m.name(5, 2);
        m.text(6, 0, 0);
        m.take(7, 0, 0, 0);
        m.take(8, 8, 8, 16);
        return m;
    }

    /** What can be seen of a furnished memory without spreading anything, in some 130 calls. */
    static String picture(OwnMemory m) {
        StringBuilder all = new StringBuilder();
        for (int r = 0; r < 24; r++) {
            all.append(m.kind(r));
        }
        for (int r = 0; r < FURNISHED; r++) {
            all.append(" | root ").append(r).append(" as ").append(firstSame(m, r));
            int kind = m.kind(r);
            if (kind == BLOCK) {
                lookIntoBlock(m, r, r == 8 ? new int[] {0, 7, 15, 16} : new int[] {0, 1, 2}, all);
            } else if (kind != NOTHING) {
                lookIntoText(m, r, kind, all);
            }
        }
        return all.append(" | words ").append(m.collect()).toString();
    }

    /** The first root that holds what root r holds. */
    private static int firstSame(OwnMemory m, int r) {
        int s = 0;
        while (s < FURNISHED && !m.same(r, s)) {
            s++;
        }
        return s;
    }

    private static void lookIntoBlock(OwnMemory m, int r, int[] places, StringBuilder all) {
        for (int k : places) {
            all.append(" link ").append(answer(() -> {
                m.lead(r, k, LOOK);
                return firstSame(m, LOOK);
            }));
            all.append(" value ").append(answer(() -> m.follow(r, k, LOOK) ? "to " + firstSame(m, LOOK) : m.bits(r, k)));
            all.append(" plain ").append(answer(() -> m.get(r, k)));
        }
        m.drop(LOOK);
    }

    private static void lookIntoText(OwnMemory m, int r, int kind, StringBuilder all) {
        int length = m.length(r);
        all.append(" length ").append(length);
        for (int k : new int[] {0, 1, 2, length - 1}) {
            if (kind != JOINED && k >= 0 && k < length) {
                all.append(" unit ").append(m.unit(r, k));
            }
        }
    }

    /** Fills a memory with this limit so that just as many words are free; uses roots 21 and 22. */
    static void leave(OwnMemory m, int limit, int free) {
        int rest = limit - free - m.collect();
        while (rest > 0) {
            int words = Math.min(rest, 20);
            int others = rest - words;
            words -= others > 0 && others < 4 ? 4 : 0;
            m.take(LOOK, 1, 0, words - 4);
            m.tie(LOOK, 0, BALLAST);
            m.copy(BALLAST, LOOK);
            rest -= words;
        }
        m.drop(LOOK);
        due("just " + free + " words are free", limit - free, m::collect);
    }

    /** A text of n units in root r: the units are first, first + 1, .. ; uses root 23. */
    static void build(OwnMemory m, int r, int first, int n) {
        m.text(r, 0, 0);
        for (int k = 0; k < n; k++) {
            m.text(23, first + k, 1);
            m.join(r, r, 23);
        }
        m.drop(23);
    }

    /** A text of 2 to the power of doublings units, all the same; joined from 32 units on. */
    static void buildDoubled(OwnMemory m, int r, int unit, int doublings) {
        m.text(r, unit, 1);
        for (int i = 0; i < doublings; i++) {
            m.join(r, r, r);
        }
    }

    /** A flat text of 4,000 units in root r, which are 1 2 3 4 over and over; uses root 23. */
    static void buildMost(OwnMemory m, int r) {
        m.text(r, 0x0001000200030004L, 4);
        for (int i = 0; i < 9; i++) {
            m.join(r, r, r);
        }
        m.part(23, r, 0, 1952);
        m.join(r, r, 23);
        m.part(r, r, 0, 4000);
        m.drop(23);
    }

    static String read(OwnMemory m, int r) {
        StringBuilder all = new StringBuilder();
        int length = m.length(r);
        for (int k = 0; k < length; k++) {
            all.append(m.unit(r, k)).append(' ');
        }
        return all.toString().trim();
    }
}
