/**
 * Each sentence of promises 1 to 23 that names a boundary case: what is right at the boundary itself, and what is refused
 * at the first value beyond it, which then changes nothing. What is said under 'Terms' is tested by TermsTest.
 */
public final class BoundariesTest extends Check {
    private static final int MIN = Integer.MIN_VALUE;
    private static final int MAX = Integer.MAX_VALUE;
    private static final int[] TEXTS = {2, 3, 4, 5, 6};

    /** A call that has a root among its arguments. */
    private interface RootCall {
        void on(OwnMemory m, int root);
    }

    /** The roots beyond 0 .. 23 are refused; whether 0 and 23 are right is each promise's own matter. */
    private static void noSuchRoot(String what, RootCall call) {
        for (int r : NO_ROOTS) {
            refused(what + ", no such root " + r, m -> call.on(m, r));
        }
    }

    private static void noBlock(String what, RootCall call) {
        for (int r : NO_BLOCKS) {
            refused(what + ", no block in root " + r, m -> call.on(m, r));
        }
    }

    private static void noText(String what, RootCall call) {
        for (int r : NO_TEXTS) {
            refused(what + ", no text in root " + r, m -> call.on(m, r));
        }
    }

    // Promise 1

    private static void nothingIsThere() {
        OwnMemory m = new OwnMemory(100);
        due("1 nothing is there: no words", 0, m::collect);
        for (int r = 0; r < 24; r++) {
            int root = r;
            due("1 nothing is there: root " + r, NOTHING, () -> m.kind(root));
        }
    }

    private static void limitBelow16() {
        for (int limit : new int[] {16, 15, 14, 3, 1, 0, -1, -16, MIN}) {
            OwnMemory m = new OwnMemory(limit);
            thrown("1 limit " + limit + ": 17 words are full", FULL, () -> m.take(0, 0, 0, 14));
            done("1 limit " + limit + ": 16 words are not", () -> m.take(0, 0, 0, 13));
            thrown("1 limit " + limit + ": then the smallest is full", FULL, () -> m.take(1, 0, 0, 0));
            due("1 limit " + limit + ": words", 16, m::collect);
        }
        OwnMemory above = new OwnMemory(17);
        thrown("1 limit 17: 18 words are full", FULL, () -> above.take(0, 0, 0, 15));
        done("1 limit 17: 17 words are not", () -> above.take(0, 0, 0, 14));
    }

    /** In 512 calls: a limit that cannot be had is taken for one that can, and no machine's error comes of it. */
    private static void limitFarAbove() {
        for (int limit : new int[] {1_048_576, 1_048_577, MAX}) {
            OwnMemory m = new OwnMemory(limit);
            buildMost(m, 0);
            for (int i = 0; i < 20; i++) {
                m.take(2, 8, 0, 0);
                m.tie(2, 0, 1);
                m.copy(1, 2);
                for (int k = 1; k < 8; k++) {
                    m.part(3, 0, 0, 4000);
                    m.tie(2, k, 3);
                }
            }
            due("1 limit " + limit + ": words", 2004 + 20 * (11 + 7 * 2004), m::collect);
        }
    }

    /** No 512 calls fill so much; the calls behind them are the only way to see this limit, and are free by the document. */
    private static void limitAbove1048576() {
        for (int limit : new int[] {1_048_575, 1_048_576, 1_048_577, MAX}) {
            int most = Math.min(limit, 1_048_576);
            OwnMemory m = new OwnMemory(limit);
            buildMost(m, 0);
            int words = 2004;
            while (words + 11 + 7 * 2004 <= most) {
                m.take(2, 8, 0, 0);
                m.tie(2, 0, 1);
                m.copy(1, 2);
                for (int k = 1; k < 8; k++) {
                    m.part(3, 0, 0, 4000);
                    m.tie(2, k, 3);
                }
                words += 11 + 7 * 2004;
            }
            for (int r = 4; words + 2004 + 4 <= most; r++) {
                m.part(r, 0, 0, 4000);
                words += 2004;
            }
            int units = 2 * (most - words - 4);
            thrown("1 limit " + limit + ": one word more is full", FULL, () -> m.part(20, 0, 0, units + 1));
            done("1 limit " + limit + ": it is reached", () -> m.part(20, 0, 0, units));
            due("1 limit " + limit + ": words", most, m::collect);
        }
    }

    // Promise 2

    private static void takeHolds() {
        for (int r : new int[] {0, 23}) {
            gives("2 root " + r + " holds a new block", "1 false", m -> {
                m.copy(r == 0 ? 9 : 0, r);
                m.take(r, 1, 1, 1);
                return m.kind(r) + " " + m.same(r, r == 0 ? 9 : 0);
            });
        }
        gives("2 each block is a new one", false, m -> {
            m.take(9, 0, 0, 0);
            m.take(10, 0, 0, 0);
            return m.same(9, 10);
        });
        noSuchRoot("2 take", (m, r) -> m.take(r, 0, 0, 0));
    }

    private static void takeNumbers() {
        int[][] right = {{0, 0, 0}, {8, 0, 0}, {0, 8, 0}, {0, 0, 16}, {8, 8, 16}};
        for (int[] n : right) {
            gives("2 a number as said " + n[0] + " " + n[1] + " " + n[2], 3 + n[0] + 2 * n[1] + n[2], m -> {
                int before = m.collect();
                m.take(9, n[0], n[1], n[2]);
                return m.collect() - before;
            });
        }
        for (int n : new int[] {-1, 9, MIN, MAX}) {
            refused("2 " + n + " links", m -> m.take(9, n, 0, 0));
            refused("2 " + n + " values", m -> m.take(9, 0, n, 0));
            refused("2 " + n + " links of the root that holds something", m -> m.take(0, n, 0, 0));
        }
        for (int n : new int[] {-1, 17, MIN, MAX}) {
            refused("2 " + n + " plain words", m -> m.take(9, 0, 0, n));
        }
        refused("2 numbers whose sum is as said", m -> m.take(9, -1, 1, 0));
    }

    // Promises 3, 4, 5, 6

    private static void copies() {
        for (int s = 0; s < 9; s++) {
            int from = s;
            gives("3 root r holds what root " + s + " holds", true, m -> {
                m.copy(23, from);
                return m.same(23, from) && m.kind(23) == m.kind(from);
            });
        }
        gives("3 or nothing", NOTHING, m -> {
            m.copy(2, 1);
            return m.kind(2);
        });
        gives("3 from root 23 to root 0", FLAT, m -> {
            m.copy(23, 2);
            m.copy(0, 23);
            return m.kind(0);
        });
        gives("3 a root to itself", true, m -> {
            String before = picture(m);
            m.copy(3, 3);
            return before.equals(picture(m));
        });
        noSuchRoot("3 copy to r", (m, r) -> m.copy(r, 2));
        noSuchRoot("3 copy from s", (m, r) -> m.copy(2, r));
        noSuchRoot("3 copy both", (m, r) -> m.copy(r, r));
    }

    private static void drops() {
        for (int r = 0; r < 24; r++) {
            int root = r;
            gives("4 root " + r + " holds nothing", NOTHING, m -> {
                m.drop(root);
                return m.kind(root);
            });
        }
        gives("4 the other roots stay", FLAT, m -> {
            m.copy(9, 2);
            m.drop(2);
            return m.kind(9);
        });
        gives("4 a root that holds nothing", true, m -> {
            String before = picture(m);
            m.drop(1);
            return before.equals(picture(m));
        });
        noSuchRoot("4 drop", (m, r) -> m.drop(r));
    }

    private static void kinds() {
        int[] kinds = {BLOCK, NOTHING, FLAT, JOINED, SPREAD, NAME, FLAT, BLOCK, BLOCK};
        for (int r = 0; r < kinds.length; r++) {
            int root = r;
            gives("5 what root " + r + " holds", kinds[r], m -> m.kind(root));
            gives("5 what root 23 holds", kinds[r], m -> {
                m.copy(23, root);
                return m.kind(23);
            });
        }
        noSuchRoot("5 kind", (m, r) -> m.kind(r));
    }

    private static void sames() {
        for (int r = 0; r < 9; r++) {
            for (int s = 0; s < 9; s++) {
                int first = r;
                int second = s;
                gives("6 roots " + r + " and " + s, r == s, m -> m.same(first, second));
            }
        }
        gives("6 both nothing", true, m -> m.same(1, 23));
        gives("6 nothing and the first object made", false, m -> m.same(1, 0));
        gives("6 equal texts are two objects", false, m -> {
            m.text(9, 0x000100020003L, 3);
            return m.same(9, 2);
        });
        noSuchRoot("6 same r", (m, r) -> m.same(r, 0));
        noSuchRoot("6 same s", (m, r) -> m.same(0, r));
        noSuchRoot("6 same both", (m, r) -> m.same(r, r));
    }

    // Promises 7 to 14: the places of blocks

    private static void placesOfLinks() {
        for (int links = 0; links <= 8; links++) {
            OwnMemory m = new OwnMemory(200);
            m.take(0, links, 8, 16);
            m.text(1, 5, 1);
            for (int k = 0; k < links; k++) {
                int at = k;
                done("7 link " + k + " of " + links, () -> m.tie(0, at, 1));
                m.drop(2);
                done("8 link " + k + " of " + links, () -> m.lead(0, at, 2));
                due("8 leads there", true, () -> m.same(1, 2));
            }
            for (int k : new int[] {links, -1, MIN, MAX}) {
                thrown("7 no link " + k + " of " + links, WRONG, () -> m.tie(0, k, 1));
                thrown("8 no link " + k + " of " + links, WRONG, () -> m.lead(0, k, 1));
            }
            for (int k = 0; k < 8; k++) {
                int at = k;
                due("7 no value is touched, " + links, 0L, () -> m.bits(0, at));
            }
            due("8 the root is left, " + links, FLAT, () -> m.kind(1));
        }
    }

    private static void placesOfValues() {
        for (int values = 0; values <= 8; values++) {
            OwnMemory m = new OwnMemory(200);
            m.take(0, 8, values, 16);
            m.text(1, 5, 1);
            for (int k = 0; k < values; k++) {
                int at = k;
                done("9 value " + k + " of " + values, () -> m.number(0, at, ~at));
                due("11 value " + k + " of " + values, ~(long) k, () -> m.bits(0, at));
                due("12 a number " + k + " of " + values, false, () -> m.follow(0, at, 2));
                done("10 value " + k + " of " + values, () -> m.refer(0, at, 1));
                due("12 a reference " + k + " of " + values, true, () -> m.follow(0, at, 2));
                due("12 it is held", true, () -> m.same(1, 2));
                m.drop(2);
            }
            for (int k : new int[] {values, -1, MIN, MAX}) {
                thrown("9 no value " + k + " of " + values, WRONG, () -> m.number(0, k, 1));
                thrown("10 no value " + k + " of " + values, WRONG, () -> m.refer(0, k, 1));
                thrown("11 no value " + k + " of " + values, WRONG, () -> m.bits(0, k));
                thrown("12 no value " + k + " of " + values, WRONG, () -> m.follow(0, k, 1));
            }
            for (int k = 0; k < 16; k++) {
                int at = k;
                due("9, 10 no plain word is touched, " + values, 0, () -> m.get(0, at));
            }
            for (int k = 0; k < 8; k++) {
                m.lead(0, k, 2);
                due("9, 10 no link is touched, " + values, NOTHING, () -> m.kind(2));
            }
        }
    }

    private static void placesOfPlainWords() {
        for (int plain = 0; plain <= 16; plain++) {
            OwnMemory m = new OwnMemory(200);
            m.take(0, 8, 8, plain);
            m.take(1, 8, 8, 16);
            for (int k = 0; k < plain; k++) {
                int at = k;
                done("13 plain word " + k + " of " + plain, () -> m.set(0, at, ~at));
                due("14 plain word " + k + " of " + plain, ~k, () -> m.get(0, at));
            }
            for (int k : new int[] {plain, -1, MIN, MAX}) {
                thrown("13 no plain word " + k + " of " + plain, WRONG, () -> m.set(0, k, 1));
                thrown("14 no plain word " + k + " of " + plain, WRONG, () -> m.get(0, k));
            }
            for (int k = 0; k < 8; k++) {
                int at = k;
                due("13 no value is touched, " + plain, 0L, () -> m.bits(0, at));
                m.lead(0, k, 2);
                due("13 no link is touched, " + plain, NOTHING, () -> m.kind(2));
            }
            due("13 nor the block behind it, " + plain, 43 + 27 + plain, m::collect);
        }
    }

    private static void ties() {
        for (int s = 0; s < 9; s++) {
            int to = s;
            gives("7 link 1 leads to what root " + s + " holds", true, m -> {
                m.tie(0, 1, to);
                m.lead(0, 1, 9);
                return m.same(9, to);
            });
        }
        gives("7 to nothing again", NOTHING, m -> {
            m.tie(0, 0, 1);
            m.lead(0, 0, 9);
            return m.kind(9);
        });
        gives("7 roots 23 and 23", true, m -> {
            m.copy(23, 0);
            m.tie(23, 1, 23);
            m.lead(0, 1, 9);
            return m.same(9, 0);
        });
        noSuchRoot("7 tie r", (m, r) -> m.tie(r, 0, 2));
        noSuchRoot("7 tie s", (m, r) -> m.tie(0, 0, r));
        noBlock("7 tie", (m, r) -> m.tie(r, 0, 2));
        refused("7 a block without links", m -> m.tie(7, 0, 2));
        for (int k : new int[] {-1, 2, 3, MIN, MAX}) {
            refused("7 no link " + k + " of 2", m -> m.tie(0, k, 7));
        }
        for (int k : new int[] {-1, 8, 9, MIN, MAX}) {
            refused("7 no link " + k + " of 8", m -> m.tie(8, k, 7));
        }
    }

    private static void leads() {
        gives("8 root 23 holds what the link leads to", true, m -> {
            m.lead(0, 0, 23);
            return m.same(23, 2);
        });
        gives("8 or nothing", NOTHING, m -> {
            m.lead(0, 1, 2);
            return m.kind(2);
        });
        gives("8 the block's own root", true, m -> {
            m.lead(0, 0, 0);
            return m.same(0, 2);
        });
        gives("8 from root 23", true, m -> {
            m.copy(23, 0);
            m.lead(23, 0, 0);
            return m.same(0, 2);
        });
        noSuchRoot("8 lead r", (m, r) -> m.lead(r, 0, 2));
        noSuchRoot("8 lead s", (m, r) -> m.lead(0, 0, r));
        noBlock("8 lead", (m, r) -> m.lead(r, 0, 9));
        refused("8 a block without links", m -> m.lead(7, 0, 2));
        for (int k : new int[] {-1, 2, 3, MIN, MAX}) {
            refused("8 no link " + k + " of 2", m -> m.lead(0, k, 2));
        }
        for (int k : new int[] {-1, 8, 9, MIN, MAX}) {
            refused("8 no link " + k + " of 8", m -> m.lead(8, k, 2));
        }
    }

    private static void numbers() {
        long[] right = {0, 1, -1, Long.MIN_VALUE, Long.MAX_VALUE, 0xFFF9FFFFFFFFFFFFL, 0xFFF9000000000000L,
            0xFFFB000000000000L, 0xFFFBFFFFFFFFFFFFL, 0x7FFA000000000000L, 0xFFEA000000000000L, 0x0000FFFA00000000L,
            0x00000000FFFA0000L, 0x000000000000FFFAL, 0x00000000FFFFFFFFL, 0x0000000080000000L, 0xFFFFFFFF00000000L};
        for (long bits : right) {
            for (int k = 0; k < 2; k++) {
                int at = k;
                gives("9 a number " + Long.toHexString(bits) + " in place " + k, bits, m -> {
                    m.number(0, at, bits);
                    m.collect();
                    return m.follow(0, at, 9) ? "a reference" : (Object) m.bits(0, at);
                });
            }
        }
        long[] kept = {0xFFFA000000000000L, 0xFFFA000000000001L, 0xFFFA00000000FFFFL, 0xFFFA800000000000L,
            0xFFFAFFFFFFFFFFFFL};
        for (long bits : kept) {
            refused("9 kept for references, a number there " + Long.toHexString(bits), m -> m.number(0, 0, bits));
            refused("9 kept for references, a reference there " + Long.toHexString(bits), m -> m.number(0, 1, bits));
        }
        gives("9 root 23", 77L, m -> {
            m.copy(23, 0);
            m.number(23, 0, 77);
            return m.bits(0, 0);
        });
        noSuchRoot("9 number", (m, r) -> m.number(r, 0, 1));
        noBlock("9 number", (m, r) -> m.number(r, 0, 1));
        noSuchValue("9 number", (m, r, k) -> m.number(r, k, 1));
    }

    private interface PlaceCall {
        void on(OwnMemory m, int r, int k);
    }

    private static void noSuchValue(String what, PlaceCall call) {
        refused(what + ", a block without values", m -> call.on(m, 7, 0));
        for (int k : new int[] {-1, 2, 3, MIN, MAX}) {
            refused(what + ", no value " + k + " of 2", m -> call.on(m, 0, k));
        }
        for (int k : new int[] {-1, 8, 9, MIN, MAX, 1 << 30, 1 << 31, -(1 << 30)}) {
            refused(what + ", no value " + k + " of 8", m -> call.on(m, 8, k));
        }
    }

    private static void refers() {
        for (int s : new int[] {0, 2, 3, 4, 5, 6, 7, 8}) {
            gives("10 a reference to what root " + s + " holds", "true true", m -> {
                m.refer(0, 0, s);
                m.collect();
                return m.follow(0, 0, 9) + " " + m.same(9, s);
            });
        }
        gives("10 roots 23 and 23", true, m -> {
            m.copy(23, 0);
            m.refer(23, 0, 23);
            return m.follow(0, 0, 9) && m.same(9, 0);
        });
        refused("10 s holds nothing, a number stays", m -> m.refer(0, 0, 1));
        refused("10 s holds nothing, a reference stays", m -> m.refer(0, 1, 1));
        noSuchRoot("10 refer r", (m, r) -> m.refer(r, 0, 2));
        noSuchRoot("10 refer s", (m, r) -> m.refer(0, 0, r));
        noBlock("10 refer", (m, r) -> m.refer(r, 0, 2));
        noSuchValue("10 refer", (m, r, k) -> m.refer(r, k, 2));
    }

    private static void bitsOfValues() {
        gives("11 the bits of a number", 5L, m -> m.bits(0, 0));
        gives("11 the bits of a number that was a reference", 6L, m -> {
            m.number(0, 1, 6);
            return m.bits(0, 1);
        });
        gives("11 root 23", 5L, m -> {
            m.copy(23, 0);
            return m.bits(23, 0);
        });
        refused("11 it is a reference", m -> m.bits(0, 1));
        gives("11 it is a reference that was a number", WRONG, m -> {
            m.refer(0, 0, 2);
            return m.bits(0, 0);
        });
        noSuchRoot("11 bits", (m, r) -> m.bits(r, 0));
        noBlock("11 bits", (m, r) -> m.bits(r, 0));
        noSuchValue("11 bits", (m, r, k) -> m.bits(r, k));
    }

    private static void follows() {
        gives("12 root 23 holds that to which it refers", "true true", m -> m.follow(0, 1, 23) + " " + m.same(23, 2));
        gives("12 the block's own root", "true true", m -> m.follow(0, 1, 0) + " " + m.same(0, 2));
        for (int s = 0; s < 9; s++) {
            int to = s;
            gives("12 false, and nothing done to root " + s, "false true", m -> {
                String before = picture(m);
                return m.follow(0, 0, to) + " " + before.equals(picture(m));
            });
        }
        noSuchRoot("12 follow r", (m, r) -> m.follow(r, 1, 2));
        noSuchRoot("12 follow s, a reference", (m, r) -> m.follow(0, 1, r));
        noSuchRoot("12 follow s, a number", (m, r) -> m.follow(0, 0, r));
        noBlock("12 follow", (m, r) -> m.follow(r, 0, 9));
        noSuchValue("12 follow", (m, r, k) -> m.follow(r, k, 2));
    }

    private static void setsAndGets() {
        for (int v : new int[] {0, 1, -1, MIN, MAX, 0xFFFA0000}) {
            for (int k = 0; k < 2; k++) {
                int at = k;
                gives("13 plain word " + k + " becomes " + v, v, m -> {
                    m.set(0, at, v);
                    m.collect();
                    return m.get(0, at);
                });
            }
        }
        gives("13, 14 root 23", 9, m -> {
            m.copy(23, 0);
            m.set(23, 0, 9);
            return m.get(23, 0);
        });
        gives("14 plain word 15", 0, m -> m.get(8, 15));
        noSuchRoot("13 set", (m, r) -> m.set(r, 0, 1));
        noSuchRoot("14 get", (m, r) -> m.get(r, 0));
        noBlock("13 set", (m, r) -> m.set(r, 0, 1));
        noBlock("14 get", (m, r) -> m.get(r, 0));
        refused("13 a block without plain words", m -> m.set(7, 0, 1));
        refused("14 a block without plain words", m -> m.get(7, 0));
        for (int k : new int[] {-1, 2, 3, MIN, MAX}) {
            refused("13 no plain word " + k + " of 2", m -> m.set(0, k, 1));
            refused("14 no plain word " + k + " of 2", m -> m.get(0, k));
        }
        for (int k : new int[] {-1, 16, 17, MIN, MAX}) {
            refused("13 no plain word " + k + " of 16", m -> m.set(8, k, 1));
            refused("14 no plain word " + k + " of 16", m -> m.get(8, k));
        }
    }

    // Promises 15 to 21: texts and names

    private static void texts() {
        long units = 0xFFFF000080007FFFL;
        String[] want = {"", "32767", "32768 32767", "0 32768 32767", "65535 0 32768 32767"};
        for (int n = 0; n <= 4; n++) {
            int count = n;
            gives("15 the lowest " + n + ", the highest first", want[n], m -> {
                m.text(23, units, count);
                return read(m, 23);
            });
            gives("15 a new flat text of " + n, "2 false " + n, m -> {
                m.text(9, units, count);
                m.text(0, units, count);
                return m.kind(0) + " " + m.same(0, 9) + " " + m.length(0);
            });
        }
        for (int n : new int[] {-1, 5, MIN, MAX}) {
            refused("15 no such n " + n, m -> m.text(9, units, n));
            refused("15 no such n " + n + ", the root holds something", m -> m.text(2, units, n));
        }
        noSuchRoot("15 text", (m, r) -> m.text(r, units, 1));
    }

    private static void joins() {
        for (int r : new int[] {0, 23}) {
            gives("16 root " + r, "1 2 3 1 2 3", m -> {
                m.join(r, 2, 5);
                return read(m, r);
            });
        }
        gives("16 roots 23", "1 2 3 1 2 3", m -> {
            m.copy(23, 2);
            m.join(23, 23, 23);
            return read(m, 23);
        });
        noSuchRoot("16 join r", (m, r) -> m.join(r, 2, 2));
        noSuchRoot("16 join a", (m, r) -> m.join(9, r, 2));
        noSuchRoot("16 join b", (m, r) -> m.join(9, 2, r));
        noText("16 join a", (m, r) -> m.join(9, r, 2));
        noText("16 join b", (m, r) -> m.join(9, 2, r));
        noText("16 join with the empty one a", (m, r) -> m.join(9, r, 6));
        noText("16 join with the empty one b", (m, r) -> m.join(9, 6, r));
    }

    /** Root 0 has 4,000 units, 1 has 3,999, 2 has 1, 3 has 2 and 4 has none. */
    private static OwnMemory most() {
        OwnMemory m = new OwnMemory(20_000);
        buildMost(m, 0);
        m.part(1, 0, 0, 3999);
        m.text(2, 9, 1);
        m.text(3, 0x00080009L, 2);
        m.text(4, 0, 0);
        return m;
    }

    private static void joinsOfMost() {
        int[][] right = {{1, 2}, {2, 1}, {0, 4}, {4, 0}};
        for (int[] pair : right) {
            OwnMemory m = most();
            done("16 4,000 units", () -> m.join(9, pair[0], pair[1]));
            due("16 all 4,000", 4000, () -> m.length(9));
        }
        int[][] tooMany = {{0, 2}, {2, 0}, {1, 3}, {3, 1}, {0, 0}, {1, 1}, {0, 1}};
        for (int[] pair : tooMany) {
            OwnMemory m = most();
            m.copy(9, 3);
            int words = m.collect();
            thrown("16 more than 4,000 units", FULL, () -> m.join(9, pair[0], pair[1]));
            due("16 then the root stays", true, () -> m.same(9, 3));
            due("16 and nothing is made", words, m::collect);
        }
        OwnMemory m = most();
        m.join(9, 1, 2);
        thrown("16 more than 4,000 units by a joined one", FULL, () -> m.join(9, 9, 2));
        due("16 it stays joined", JOINED, () -> m.kind(9));
        due("19 the last unit of 4,000", 9, () -> m.unit(9, 3999));
        due("19 the last but one of 4,000", 3, () -> m.unit(9, 3998));
        thrown("19 no unit 4,000 of 4,000", WRONG, () -> m.unit(9, 4000));
        thrown("16 more than 4,000 units by a spread one", FULL, () -> m.join(9, 9, 2));
        thrown("16 no text is refused otherwise", WRONG, () -> m.join(9, 0, 20));
    }

    private static void parts() {
        int[] lengths = {3, 26, 26, 3, 0};
        for (int i = 0; i < TEXTS.length; i++) {
            int s = TEXTS[i];
            int n = lengths[i];
            int[][] right = {{0, 0}, {n, n}, {0, n}, {Math.max(0, n - 1), n}, {0, Math.min(1, n)}};
            for (int[] p : right) {
                gives("17 part " + p[0] + " to " + p[1] + " of root " + s, "2 " + (p[1] - p[0]), m -> {
                    m.part(23, s, p[0], p[1]);
                    return m.kind(23) + " " + m.length(23);
                });
            }
            int[][] none = {{-1, 0}, {-1, n}, {0, n + 1}, {n + 1, n + 1}, {n, n + 1}, {1, 0}, {n + 1, n}, {0, -1}, {-1, -1},
                {MIN, MAX}, {MAX, MIN}, {MIN, 0}, {0, MAX}, {MAX, MAX}, {MIN, MIN}};
            for (int[] p : none) {
                refused("17 no part " + p[0] + " to " + p[1] + " of root " + s, m -> m.part(9, s, p[0], p[1]));
            }
        }
        gives("17 the units from up to before", "2", m -> {
            m.part(0, 2, 1, 2);
            return read(m, 0);
        });
        gives("17 the last units of a joined one", "4 8 9", m -> {
            m.part(23, 3, 23, 26);
            return read(m, 23);
        });
        gives("17 all of a flat one is a new one", false, m -> {
            m.part(9, 2, 0, 3);
            return m.same(9, 2);
        });
        gives("17 all of a name is a new flat one", "2 false", m -> {
            m.part(9, 5, 0, 3);
            return m.kind(9) + " " + m.same(9, 5);
        });
        gives("17 its own root", "2 3", m -> {
            m.part(2, 2, 1, 3);
            return read(m, 2);
        });
        gives("17 it is gone over even for no unit", SPREAD, m -> {
            m.part(9, 3, 0, 0);
            return m.kind(3);
        });
        noSuchRoot("17 part r", (m, r) -> m.part(r, 3, 0, 1));
        noSuchRoot("17 part s", (m, r) -> m.part(9, r, 0, 0));
        noText("17 part", (m, r) -> m.part(9, r, 0, 0));
    }

    private static void lengthsAndUnits() {
        int[] lengths = {3, 26, 26, 3, 0};
        int[] lasts = {3, 9, 4, 3, -1};
        for (int i = 0; i < TEXTS.length; i++) {
            int s = TEXTS[i];
            int n = lengths[i];
            int last = lasts[i];
            gives("18 how many units root " + s + " has", n, m -> m.length(s));
            gives("18 by root 23", n, m -> {
                m.copy(23, s);
                return m.length(23);
            });
            if (n > 0) {
                gives("19 the last unit of root " + s, last, m -> m.unit(s, n - 1));
                gives("19 by root 23", last, m -> {
                    m.copy(23, s);
                    return m.unit(23, n - 1);
                });
            }
            for (int k : new int[] {-1, n, n + 1, MIN, MAX}) {
                refused("19 no unit " + k + " of root " + s, m -> m.unit(s, k));
            }
        }
        gives("18 it is not gone over", JOINED, m -> {
            m.length(3);
            return m.kind(3);
        });
        gives("19 it is gone over", SPREAD, m -> {
            m.unit(3, 0);
            return m.kind(3);
        });
        noSuchRoot("18 length", (m, r) -> m.length(r));
        noText("18 length", (m, r) -> m.length(r));
        noSuchRoot("19 unit", (m, r) -> m.unit(r, 0));
        noText("19 unit", (m, r) -> m.unit(r, 0));
    }

    /** The texts of a row are each before the next one. */
    private static void compares() {
        long[][] row = {{0, 0}, {0, 1}, {0, 2}, {0, 4}, {1, 3}, {1, 2}, {1, 1}, {0x00010000L, 2}, {0x00010001L, 2},
            {0x0001FFFFL, 2}, {0x7FFF, 1}, {0x7FFF7FFFL, 2}, {0x8000, 1}, {0x80000000L, 2}, {0xFFFF, 1},
            {0xFFFF0000L, 2}, {0xFFFF7FFFL, 2}, {0xFFFF8000L, 2}, {0xFFFFFFFFL, 2}, {-1, 4}};
        OwnMemory m = new OwnMemory(1000);
        for (int i = 0; i < row.length; i++) {
            m.text(i, row[i][0], (int) row[i][1]);
        }
        for (int i = 0; i < row.length; i++) {
            for (int j = 0; j < row.length; j++) {
                int a = i;
                int b = j;
                due("20 texts " + i + " and " + j, Integer.compare(i, j), () -> m.compare(a, b));
            }
        }
    }

    private static void comparesOfJoined() {
        gives("20 one that begins the other one is before it", "-1 1 0", m -> {
            m.join(9, 3, 2);
            return m.compare(3, 9) + " " + m.compare(9, 3) + " " + m.compare(9, 9);
        });
        gives("20 the last unit tells", "-1 1", m -> {
            m.text(9, 1, 1);
            m.text(10, 2, 1);
            m.join(11, 4, 9);
            m.join(12, 4, 10);
            return m.compare(11, 12) + " " + m.compare(12, 11);
        });
        gives("20 both are gone over", "1 4 4", m -> {
            m.join(9, 2, 3);
            int before = m.compare(3, 9);
            return before + " " + m.kind(3) + " " + m.kind(9);
        });
        gives("20 with an empty one, too", "1 4", m -> m.compare(3, 6) + " " + m.kind(3));
        gives("20 an empty one with it, too", "-1 4", m -> m.compare(6, 3) + " " + m.kind(3));
        gives("20 with itself, too", "0 4", m -> m.compare(3, 3) + " " + m.kind(3));
        gives("20 a text and its name", 0, m -> m.compare(2, 5));
        gives("20 roots 0 and 23", 0, m -> {
            m.copy(0, 2);
            m.copy(23, 5);
            return m.compare(0, 23);
        });
        noSuchRoot("20 compare a", (m, r) -> m.compare(r, 3));
        noSuchRoot("20 compare b, a is not gone over", (m, r) -> m.compare(3, r));
        noText("20 compare a", (m, r) -> m.compare(r, 3));
        noText("20 compare b, a is not gone over", (m, r) -> m.compare(3, r));
    }

    private static void names() {
        for (int r : new int[] {0, 23}) {
            gives("21 root " + r + " holds the name", "5 true", m -> {
                m.name(r, 2);
                return m.kind(r) + " " + m.same(r, 5);
            });
        }
        gives("21 of root 23", true, m -> {
            m.copy(23, 2);
            m.name(23, 23);
            return m.same(23, 5);
        });
        gives("21 of the empty text", "5 0 true", m -> {
            m.name(9, 6);
            m.text(10, 0, 0);
            m.name(10, 10);
            return m.kind(9) + " " + m.length(9) + " " + m.same(9, 10);
        });
        noSuchRoot("21 name r", (m, r) -> m.name(r, 3));
        noSuchRoot("21 name s", (m, r) -> m.name(9, r));
        noText("21 name", (m, r) -> m.name(9, r));
    }

    // Promises 22 and 23

    private static void collects() {
        OwnMemory empty = new OwnMemory(16);
        due("22 nothing is there", 0, empty::collect);
        gives("22 the words of all", (3 + 2 + 4 + 2) + 6 + (6 + 16 + 5) + (6 + 17) + 6 + 4 + 3 + 43, OwnMemory::collect);
        gives("22 again", true, m -> m.collect() == m.collect());
        gives("22 collecting changes nothing", true, m -> {
            String before = picture(m);
            m.collect();
            return before.equals(picture(m));
        });
        gives("22 all that no root leads to goes", 0, m -> {
            for (int r = 0; r < 24; r++) {
                m.drop(r);
            }
            return m.collect();
        });
    }

    private static void stresses() {
        for (int n : new int[] {0, 1, 2, 3, MAX - 1, MAX}) {
            gives("23 stress " + n, "all is well", m -> {
                String before = picture(m);
                m.stress(n);
                m.text(9, 1, 1);
                m.drop(9);
                return before.equals(picture(m)) ? "all is well" : picture(m);
            });
        }
        for (int n : new int[] {-1, -2, MIN}) {
            refused("23 stress " + n, m -> m.stress(n));
        }
    }

    public static void main(String[] args) {
        nothingIsThere();
        limitBelow16();
        limitFarAbove();
        limitAbove1048576();
        takeHolds();
        takeNumbers();
        copies();
        drops();
        kinds();
        sames();
        placesOfLinks();
        placesOfValues();
        placesOfPlainWords();
        ties();
        leads();
        numbers();
        refers();
        bitsOfValues();
        follows();
        setsAndGets();
        texts();
        joins();
        joinsOfMost();
        parts();
        lengthsAndUnits();
        compares();
        comparesOfJoined();
        names();
        collects();
        stresses();
        end();
    }
}
