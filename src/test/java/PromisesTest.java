import java.lang.reflect.Field;

/** Each promise of the document by hand: ordinary inputs, the edges that it names, and wrong inputs. */
public final class PromisesTest extends Check {
    private static void fill(OwnMemory m, int r, int words) {
        m.take(r, 1, 0, 0);
        int left = words - 4;
        while (left > 20) {
            m.take(22, 1, 0, 6);
            m.tie(22, 0, r);
            m.copy(r, 22);
            left -= 10;
        }
        m.take(22, 1, 0, left - 4);
        m.tie(22, 0, r);
        m.copy(r, 22);
        m.drop(22);
    }

    private static void newObject() {
        OwnMemory m = new OwnMemory(100);
        due("1 nothing is there", 0, m::collect);
        for (int r = 0; r < 24; r++) {
            int root = r;
            due("1 a new root holds nothing", 0, () -> m.kind(root));
        }
        for (int limit : new int[] {16, 15, 0, -1, Integer.MIN_VALUE}) {
            OwnMemory least = new OwnMemory(limit);
            done("1 limit " + limit + " holds 16 words", () -> least.take(0, 0, 0, 13));
            thrown("1 limit " + limit + " holds no more", FULL, () -> least.take(1, 0, 0, 0));
            due("1 limit " + limit + " all 16 words", 16, least::collect);
        }
        OwnMemory seventeen = new OwnMemory(17);
        done("1 limit 17 holds 17 words", () -> seventeen.take(0, 0, 0, 14));
    }

    private static void take() {
        OwnMemory m = new OwnMemory(200);
        m.take(23, 0, 0, 0);
        due("2 the smallest block", 3, m::collect);
        m.take(0, 8, 8, 16);
        due("2 the largest block", 46, m::collect);
        for (int k = 0; k < 8; k++) {
            int at = k;
            m.copy(1, 0);
            m.lead(0, at, 1);
            due("2 a link leads to nothing at first", 0, () -> m.kind(1));
            due("2 a value is 0 at first", 0L, () -> m.bits(0, at));
            due("2 a plain word is 0 at first", 0, () -> m.get(0, 8 + at));
        }
        for (int r : NO_ROOTS) {
            thrown("2 root " + r, WRONG, () -> m.take(r, 0, 0, 0));
        }
        for (int bad : new int[] {-1, Integer.MIN_VALUE, Integer.MAX_VALUE}) {
            thrown("2 links " + bad, WRONG, () -> m.take(0, bad, 0, 0));
            thrown("2 values " + bad, WRONG, () -> m.take(0, 0, bad, 0));
            thrown("2 plain " + bad, WRONG, () -> m.take(0, 0, 0, bad));
        }
        thrown("2 9 links", WRONG, () -> m.take(0, 9, 0, 0));
        thrown("2 9 values", WRONG, () -> m.take(0, 0, 9, 0));
        thrown("2 17 plain words", WRONG, () -> m.take(0, 0, 0, 17));
        due("2 a wrong call changes nothing", 46, m::collect);
        takeWhenFull();
    }

    private static void takeWhenFull() {
        OwnMemory m = new OwnMemory(20);
        m.take(0, 0, 0, 8);
        m.set(0, 0, 7);
        thrown("2 what the root holds counts still", FULL, () -> m.take(0, 0, 0, 7));
        due("2 a refused block leaves the root", 7, () -> m.get(0, 0));
        thrown("2 wrong before full", WRONG, () -> m.take(0, 9, 8, 16));
        done("2 just not full", () -> m.take(1, 0, 0, 6));
        due("2 the limit itself is not full", 20, m::collect);
        m.drop(0);
        done("2 what is dropped does not count", () -> m.take(0, 0, 0, 8));
        due("2 a plain word of a used place is 0", 0, () -> m.get(0, 0));
    }

    private static void copyDropKindSame() {
        OwnMemory m = new OwnMemory(200);
        m.take(0, 0, 0, 1);
        m.copy(1, 0);
        m.set(1, 0, 9);
        due("3 a copy is the same object", 9, () -> m.get(0, 0));
        m.copy(1, 2);
        due("3 a copy of nothing", 0, () -> m.kind(1));
        m.copy(0, 0);
        due("3 a copy to itself", 9, () -> m.get(0, 0));
        m.drop(0);
        due("4 dropped", 0, () -> m.kind(0));
        done("4 dropped again", () -> m.drop(0));
        due("4 what was dropped goes", 0, m::collect);
        for (int r : NO_ROOTS) {
            thrown("3 to root " + r, WRONG, () -> m.copy(r, 0));
            thrown("3 from root " + r, WRONG, () -> m.copy(0, r));
            thrown("4 root " + r, WRONG, () -> m.drop(r));
            thrown("5 root " + r, WRONG, () -> m.kind(r));
            thrown("6 root " + r + " first", WRONG, () -> m.same(r, 0));
            thrown("6 root " + r + " second", WRONG, () -> m.same(0, r));
            thrown("6 root " + r + " both", WRONG, () -> m.same(r, r));
        }
        m.take(0, 0, 0, 0);
        m.text(1, 5, 1);
        buildDoubled(m, 2, 6, 5);
        m.copy(3, 2);
        m.join(4, 2, 1);
        m.unit(4, 0);
        m.name(5, 1);
        int[] kinds = {1, 2, 3, 3, 4, 5, 0};
        for (int r = 0; r < kinds.length; r++) {
            int root = r;
            due("5 kind of root " + r, kinds[r], () -> m.kind(root));
        }
        due("6 the same", true, () -> m.same(2, 3));
        due("6 not the same", false, () -> m.same(2, 4));
        due("6 equal is not the same", false, () -> m.same(1, 5));
        due("6 an object and nothing", false, () -> m.same(0, 6));
        due("6 both nothing", true, () -> m.same(6, 7));
        due("6 itself", true, () -> m.same(0, 0));
    }

    private static void links() {
        OwnMemory m = new OwnMemory(200);
        m.take(0, 8, 0, 0);
        m.take(1, 0, 0, 1);
        m.set(1, 0, 5);
        m.tie(0, 7, 1);
        m.drop(1);
        due("7 a link keeps its object", 15, m::collect);
        m.lead(0, 7, 2);
        due("8 it is led to", 5, () -> m.get(2, 0));
        m.lead(0, 0, 2);
        due("8 led to nothing", 0, () -> m.kind(2));
        m.tie(0, 7, 9);
        due("7 tied to nothing", 11, m::collect);
        m.tie(0, 3, 0);
        m.lead(0, 3, 4);
        due("7 tied to itself", true, () -> m.same(0, 4));
        m.drop(4);
        m.drop(0);
        due("7 a cycle goes", 0, m::collect);
        m.take(0, 1, 0, 0);
        m.text(1, 1, 1);
        m.tie(0, 0, 1);
        m.lead(0, 0, 0);
        due("8 led away from its own block", true, () -> m.same(0, 1));
        wrongSlots("7", (r, k, s) -> {
            m.tie(r, k, s);
            return 0;
        }, m);
        wrongSlots("8", (r, k, s) -> {
            m.lead(r, k, s);
            return 0;
        }, m);
    }

    private interface Slot {
        long run(int r, int k, int s);
    }

    /** Root 0 becomes a block with 2 links, 2 values and 2 plain words, root 1 a text, root 2 nothing. */
    private static void wrongSlots(String promise, Slot slot, OwnMemory m) {
        m.take(0, 2, 2, 2);
        m.text(1, 1, 1);
        m.drop(2);
        for (int r : NO_ROOTS) {
            thrown(promise + " root " + r, WRONG, () -> slot.run(r, 0, 1));
        }
        thrown(promise + " no block but a text", WRONG, () -> slot.run(1, 0, 1));
        thrown(promise + " no block but nothing", WRONG, () -> slot.run(2, 0, 1));
        for (int k : new int[] {-1, 2, Integer.MIN_VALUE, Integer.MAX_VALUE}) {
            thrown(promise + " no such place " + k, WRONG, () -> slot.run(0, k, 1));
        }
        if (!promise.equals("9") && !promise.equals("11") && !promise.equals("13") && !promise.equals("14")) {
            for (int s : NO_ROOTS) {
                thrown(promise + " second root " + s, WRONG, () -> slot.run(0, 0, s));
            }
        }
        due(promise + " a wrong call changes nothing", 16, m::collect);
    }

    private static void values() {
        OwnMemory m = new OwnMemory(300);
        m.take(0, 1, 8, 1);
        long[] numbers = {0, 1, -1, Long.MIN_VALUE, Long.MAX_VALUE, 0xFFF9FFFFFFFFFFFFL, 0xFFFB000000000000L,
            0x00000000FFFFFFFFL, 0xFFFFFFFF00000000L, 0x7FFA000000000000L, 0x0000FFFA00000000L, 0x00000000FFFA0000L};
        for (long bits : numbers) {
            m.number(0, 7, bits);
            due("9, 11 number " + bits, bits, () -> m.bits(0, 7));
            due("12 a number is not followed", false, () -> m.follow(0, 7, 0));
            due("12 then nothing is done", 1, () -> m.kind(0));
        }
        for (long bits : new long[] {0xFFFA000000000000L, 0xFFFA000000000001L, 0xFFFAFFFFFFFFFFFFL}) {
            thrown("9 kept for references " + bits, WRONG, () -> m.number(0, 7, bits));
        }
        due("9 a wrong number changes nothing", 0x00000000FFFA0000L, () -> m.bits(0, 7));
        m.text(1, 77, 1);
        m.refer(0, 2, 1);
        m.drop(1);
        due("10 a reference keeps its object", 26, m::collect);
        thrown("11 a reference has no bits", WRONG, () -> m.bits(0, 2));
        due("12 followed", true, () -> m.follow(0, 2, 5));
        due("12 to its object", 77, () -> m.unit(5, 0));
        m.drop(5);
        thrown("10 nothing to refer to", WRONG, () -> m.refer(0, 2, 5));
        due("10 then the reference stays", true, () -> m.follow(0, 2, 6));
        m.drop(6);
        m.number(0, 2, 4);
        due("9 a reference becomes a number", 4L, () -> m.bits(0, 2));
        due("9 and keeps nothing", 21, m::collect);
        m.refer(0, 0, 0);
        due("12 a block refers to itself", true, () -> m.follow(0, 0, 1));
        due("12 the same", true, () -> m.same(0, 1));
        m.drop(0);
        m.drop(1);
        due("10 a cycle of references goes", 0, m::collect);
        wrongSlots("9", (r, k, s) -> {
            m.number(r, k, 1);
            return 0;
        }, m);
        wrongSlots("10", (r, k, s) -> {
            m.refer(r, k, s);
            return 0;
        }, m);
        wrongSlots("11", (r, k, s) -> m.bits(r, k), m);
        wrongSlots("12", (r, k, s) -> m.follow(r, k, s) ? 1 : 0, m);
    }

    private static void plainWords() {
        OwnMemory m = new OwnMemory(300);
        m.take(0, 8, 8, 16);
        for (int k = 0; k < 16; k++) {
            m.set(0, k, -k * 1_000_003);
        }
        for (int k = 0; k < 8; k++) {
            m.tie(0, k, 0);
            m.number(0, k, ~k);
        }
        m.set(0, 0, Integer.MIN_VALUE);
        m.collect();
        due("14 the first", Integer.MIN_VALUE, () -> m.get(0, 0));
        for (int k = 1; k < 16; k++) {
            int at = k;
            due("13, 14 plain word " + k, -k * 1_000_003, () -> m.get(0, at));
        }
        for (int k = 0; k < 8; k++) {
            int at = k;
            due("13 beside value " + k, ~(long) k, () -> m.bits(0, at));
        }
        m.drop(0);
        wrongSlots("13", (r, k, s) -> {
            m.set(r, k, 1);
            return 0;
        }, m);
        wrongSlots("14", (r, k, s) -> m.get(r, k), m);
    }

    private static void texts() {
        OwnMemory m = new OwnMemory(300);
        long units = 0xFFFF000080007FFFL;
        String[] want = {"", "32767", "32768 32767", "0 32768 32767", "65535 0 32768 32767"};
        int[] words = {4, 5, 5, 6, 6};
        for (int n = 0; n <= 4; n++) {
            int count = n;
            m.text(0, units, n);
            due("15 the lowest units, " + n, want[n], () -> read(m, 0));
            due("18 their number", n, () -> m.length(0));
            due("15 their words", words[n], m::collect);
            due("15 a flat text", 2, () -> m.kind(0));
            done("15 another one", () -> m.text(1, units, count));
            due("15 a new one", false, () -> m.same(0, 1));
            m.drop(1);
        }
        for (int n : new int[] {-1, 5, Integer.MIN_VALUE, Integer.MAX_VALUE}) {
            thrown("15 no such n " + n, WRONG, () -> m.text(0, 1, n));
        }
        m.take(2, 0, 0, 0);
        for (int r : NO_ROOTS) {
            thrown("15 root " + r, WRONG, () -> m.text(r, 1, 1));
            thrown("18 root " + r, WRONG, () -> m.length(r));
        }
        thrown("18 a block", WRONG, () -> m.length(2));
        thrown("18 nothing", WRONG, () -> m.length(3));
        OwnMemory full = new OwnMemory(16);
        full.text(0, 1, 4);
        full.text(1, 1, 4);
        thrown("15 full", FULL, () -> full.text(0, 2, 1));
        due("15 then the root stays", 4, () -> full.length(0));
        thrown("15 wrong before full", WRONG, () -> full.text(0, 2, 5));
        done("15 just not full", () -> full.text(2, 2, 0));
    }

    private static void joins() {
        OwnMemory m = new OwnMemory(20_000);
        m.text(0, 0, 0);
        m.text(1, 0, 0);
        m.text(2, 0x00010002L, 2);
        m.join(3, 0, 2);
        due("16 the first one is empty", true, () -> m.same(3, 2));
        m.join(3, 2, 0);
        due("16 the second one is empty", true, () -> m.same(3, 2));
        m.join(3, 0, 1);
        due("16 both are empty: the second one", true, () -> m.same(3, 1));
        build(m, 4, 10, 22);
        m.join(5, 2, 4);
        due("16 24 units are flat", 2, () -> m.kind(5));
        due("16 in their order", "1 2 10 11 12 13 14 15 16 17 18 19 20 21 22 23 24 25 26 27 28 29 30 31",
            () -> read(m, 5));
        m.text(6, 99, 1);
        m.join(7, 5, 6);
        due("16 25 units are joined", 3, () -> m.kind(7));
        due("18 25", 25, () -> m.length(7));
        due("18 a length spreads nothing", 3, () -> m.kind(7));
        m.join(8, 6, 5);
        due("19 the first of a joined one", 99, () -> m.unit(8, 0));
        due("19 the last of a joined one", 31, () -> m.unit(8, 24));
        m.join(9, 0, 7);
        due("16 an empty one and a joined one", true, () -> m.same(9, 7));
        due("16 then nothing is spread", 3, () -> m.kind(9));
        m.name(10, 2);
        m.join(11, 10, 6);
        due("16 a name and a text are a flat text", 2, () -> m.kind(11));
        m.join(11, 10, 0);
        due("16 a name and nothing are the name", 5, () -> m.kind(11));
        joinWords();
        joinMost();
        joinWrong();
    }

    /** Building needs more room than what is built, so a ballast takes the rest of the limit afterwards. */
    private static OwnMemory joinable(int free) {
        OwnMemory m = new OwnMemory(61 + free);
        build(m, 0, 0, 24);
        m.text(1, 1, 1);
        fill(m, 20, 40);
        due("16 a flat one takes 4 words and half its units", 16 + 5 + 40, m::collect);
        return m;
    }

    private static void joinWords() {
        OwnMemory m = joinable(5);
        thrown("16 full", FULL, () -> m.join(0, 0, 1));
        due("16 then the root stays", 24, () -> m.length(0));
        due("16 nothing made", 61, m::collect);
        done("16 a flat one just not full", () -> m.join(2, 1, 1));
        thrown("16 a flat one full", FULL, () -> m.join(2, 1, 1));
        due("16 the limit itself", 66, m::collect);
        OwnMemory just = joinable(6);
        done("16 joined: 6 words", () -> just.join(0, 0, 1));
        due("16 with both parts", 67, just::collect);
        just.drop(1);
        due("16 parts are kept by it", 67, just::collect);
        thrown("19 full when spread while its parts are there", FULL, () -> just.unit(0, 0));
        due("19 then it is joined still", 3, () -> just.kind(0));
        OwnMemory held = joinable(11);
        held.take(2, 0, 0, 8);
        thrown("16 what root r holds counts still", FULL, () -> held.join(2, 0, 1));
        due("16 and stays", 1, () -> held.kind(2));
        held.drop(2);
        held.take(2, 0, 0, 2);
        done("16 just not full with it", () -> held.join(2, 0, 1));
        OwnMemory empty = joinable(4);
        empty.text(2, 0, 0);
        done("16 what makes nothing is never full", () -> empty.join(3, 0, 2));
        due("16 that one", true, () -> empty.same(3, 0));
    }

    private static void joinMost() {
        OwnMemory m = new OwnMemory(1_000_000);
        m.text(0, 0x0001000200030004L, 4);
        buildDoubled(m, 1, 7, 10);
        m.part(2, 1, 0, 1000);
        m.join(2, 2, 2);
        m.join(2, 2, 2);
        due("16 4,000 units", 4000, () -> m.length(2));
        m.text(3, 1, 1);
        m.copy(4, 2);
        thrown("16 4,001 units", FULL, () -> m.join(4, 4, 3));
        due("16 then the root stays", true, () -> m.same(4, 2));
        thrown("16 8,000 units", FULL, () -> m.join(4, 4, 4));
        m.text(3, 0, 0);
        done("16 4,000 and none", () -> m.join(4, 2, 3));
        thrown("16 wrong before too many", WRONG, () -> m.join(24, 2, 2));
        due("19 the last of 4,000", 7, () -> m.unit(2, 3999));
        m.join(5, 1, 0);
        due("19 the last behind many", 4, () -> m.unit(5, 1027));
        due("19 the last of many", 7, () -> m.unit(5, 1023));
    }

    private static void joinWrong() {
        OwnMemory m = new OwnMemory(1000);
        m.text(0, 1, 1);
        m.take(1, 1, 1, 1);
        for (int r : NO_ROOTS) {
            thrown("16 to root " + r, WRONG, () -> m.join(r, 0, 0));
            thrown("16 root a " + r, WRONG, () -> m.join(2, r, 0));
            thrown("16 root b " + r, WRONG, () -> m.join(2, 0, r));
        }
        for (int s = 1; s <= 2; s++) {
            int none = s;
            thrown("16 no text first", WRONG, () -> m.join(2, none, 0));
            thrown("16 no text second", WRONG, () -> m.join(2, 0, none));
        }
        due("16 a wrong call changes nothing", 0, () -> m.kind(2));
    }

    private static void parts() {
        OwnMemory m = new OwnMemory(1000);
        build(m, 0, 100, 30);
        due("17 joined", 3, () -> m.kind(0));
        m.part(1, 0, 3, 6);
        due("17 its units", "103 104 105", () -> read(m, 1));
        due("17 a flat text", 2, () -> m.kind(1));
        due("17 the text is spread", 4, () -> m.kind(0));
        m.part(2, 0, 0, 30);
        due("17 all of it", "0", () -> String.valueOf(m.compare(0, 2)));
        m.part(3, 2, 0, 30);
        due("17 all of a flat one is a new one", false, () -> m.same(2, 3));
        m.part(3, 0, 30, 30);
        due("17 nothing at its end", 0, () -> m.length(3));
        m.part(3, 3, 0, 0);
        due("17 nothing of nothing", 0, () -> m.length(3));
        m.part(0, 0, 29, 30);
        due("17 in its own place", "129", () -> read(m, 0));
        build(m, 0, 100, 30);
        m.copy(5, 0);
        int[][] bad = {{-1, 3}, {4, 3}, {0, 31}, {31, 31}, {Integer.MIN_VALUE, 0}, {0, Integer.MAX_VALUE},
            {Integer.MAX_VALUE, Integer.MIN_VALUE}, {0, -1}, {Integer.MIN_VALUE, Integer.MAX_VALUE}};
        for (int[] p : bad) {
            thrown("17 no part " + p[0] + ".." + p[1], WRONG, () -> m.part(5, 0, p[0], p[1]));
        }
        due("17 a wrong part spreads nothing", 3, () -> m.kind(5));
        m.take(6, 1, 1, 1);
        for (int r : NO_ROOTS) {
            thrown("17 to root " + r, WRONG, () -> m.part(r, 0, 0, 0));
            thrown("17 of root " + r, WRONG, () -> m.part(1, r, 0, 0));
        }
        thrown("17 of a block", WRONG, () -> m.part(1, 6, 0, 0));
        thrown("17 of nothing", WRONG, () -> m.part(1, 7, 0, 0));
        due("17 nothing is spread by those", 3, () -> m.kind(0));
        partWhenFull();
    }

    private static void partWhenFull() {
        OwnMemory m = new OwnMemory(60);
        buildDoubled(m, 0, 8, 4);
        m.join(0, 0, 0);
        due("17 joined of one part twice", 18, m::collect);
        fill(m, 1, 24);
        thrown("17 full when spread", FULL, () -> m.part(2, 0, 0, 1));
        due("17 then it is joined", 3, () -> m.kind(0));
        m.drop(1);
        fill(m, 1, 20);
        m.copy(3, 0);
        thrown("17 full behind the spreading", FULL, () -> m.part(0, 0, 0, 26));
        due("17 what was spread stays spread", 4, () -> m.kind(0));
        due("17 and the root stays", true, () -> m.same(0, 3));
        due("17 parts are gone", 46, m::collect);
        done("17 room for its parts' words", () -> m.part(4, 0, 0, 20));
        due("17 the limit itself", 60, m::collect);
        thrown("17 what root r holds counts still", FULL, () -> m.part(4, 0, 0, 0));
        due("17 and stays", 20, () -> m.length(4));
    }

    private static void unitsAndSpreading() {
        OwnMemory m = new OwnMemory(2000);
        build(m, 0, 1, 26);
        m.copy(1, 0);
        m.join(2, 0, 0);
        m.join(3, 2, 0);
        due("19 a unit deep inside", 26, () -> m.unit(3, 77));
        due("19 spread", 4, () -> m.kind(3));
        due("19 its parts are not", 3, () -> m.kind(2));
        due("19 nor theirs", 3, () -> m.kind(0));
        due("19 a unit of a part", 1, () -> m.unit(0, 0));
        due("19 the same object is spread", 4, () -> m.kind(1));
        due("19 a unit by a spread part", 1, () -> m.unit(2, 26));
        for (int k : new int[] {-1, 26, Integer.MIN_VALUE, Integer.MAX_VALUE}) {
            thrown("19 no unit " + k, WRONG, () -> m.unit(0, k));
        }
        build(m, 5, 1, 26);
        thrown("19 no such unit", WRONG, () -> m.unit(5, 26));
        due("19 spreads nothing", 3, () -> m.kind(5));
        m.text(6, 0, 0);
        m.take(7, 1, 1, 1);
        thrown("19 a unit of none", WRONG, () -> m.unit(6, 0));
        thrown("19 a block", WRONG, () -> m.unit(7, 0));
        thrown("19 nothing", WRONG, () -> m.unit(8, 0));
        for (int r : NO_ROOTS) {
            thrown("19 root " + r, WRONG, () -> m.unit(r, 0));
        }
        spreadWords();
        deepTexts();
    }

    private static void spreadWords() {
        OwnMemory m = new OwnMemory(38);
        buildDoubled(m, 0, 8, 5);
        due("19 before", 18, m::collect);
        due("19 both at once", 8, () -> m.unit(0, 31));
        due("19 after", 26, m::collect);
        OwnMemory less = new OwnMemory(37);
        buildDoubled(less, 0, 8, 5);
        thrown("19 full", FULL, () -> less.unit(0, 31));
        due("19 nothing is spread", 3, () -> less.kind(0));
        due("19 nothing is made", 18, less::collect);
    }

    private static void deepTexts() {
        for (int side = 0; side < 2; side++) {
            OwnMemory m = new OwnMemory(100_000);
            buildDoubled(m, 0, 8, 4);
            m.text(1, 9, 1);
            for (int i = 0; i < 480; i++) {
                m.join(0, side == 0 ? 0 : 1, side == 0 ? 1 : 0);
            }
            int last = side == 0 ? 495 : 0;
            due("19 deep", 9, () -> m.unit(0, last));
            due("19 deep at the other end", 8, () -> m.unit(0, 495 - last));
            due("19 deep, all words", 6 + 4 + 248 + 5, m::collect);
        }
    }

    private static void compares() {
        OwnMemory m = new OwnMemory(2000);
        m.text(0, 0x00010002L, 2);
        m.text(1, 0x00010003L, 2);
        m.text(2, 0x000100020000L, 3);
        m.text(3, 0, 0);
        m.text(4, 0xFFFF, 1);
        m.text(5, 0x7FFF, 1);
        m.text(6, 0x00010002L, 2);
        int[][] rows = {{0, 1, -1}, {1, 0, 1}, {0, 2, -1}, {2, 0, 1}, {2, 1, -1}, {3, 0, -1}, {0, 3, 1}, {3, 3, 0},
            {4, 5, 1}, {5, 4, -1}, {4, 2, 1}, {0, 6, 0}, {0, 0, 0}};
        for (int[] row : rows) {
            due("20 " + row[0] + " and " + row[1], row[2], () -> m.compare(row[0], row[1]));
        }
        build(m, 7, 1, 40);
        build(m, 8, 1, 40);
        due("20 joined ones", 0, () -> m.compare(7, 8));
        due("20 a is spread", 4, () -> m.kind(7));
        due("20 b is spread", 4, () -> m.kind(8));
        build(m, 7, 1, 40);
        due("20 spread though the first unit tells", -1, () -> m.compare(7, 4));
        due("20 it is", 4, () -> m.kind(7));
        build(m, 7, 1, 40);
        due("20 with itself", 0, () -> m.compare(7, 7));
        due("20 then it is spread too", 4, () -> m.kind(7));
        m.name(9, 8);
        due("20 a name", 0, () -> m.compare(9, 8));
        m.take(10, 1, 1, 1);
        build(m, 7, 1, 40);
        for (int none : new int[] {10, 11, -1, 24, Integer.MIN_VALUE, Integer.MAX_VALUE}) {
            thrown("20 no text " + none, WRONG, () -> m.compare(none, 7));
            thrown("20 no text behind " + none, WRONG, () -> m.compare(7, none));
        }
        due("20 a wrong call spreads nothing", 3, () -> m.kind(7));
        compareWhenFull();
    }

    private static void compareWhenFull() {
        OwnMemory m = new OwnMemory(56);
        buildDoubled(m, 0, 8, 5);
        buildDoubled(m, 1, 8, 5);
        thrown("20 full for b", FULL, () -> m.compare(0, 1));
        due("20 a stays spread", 4, () -> m.kind(0));
        due("20 b stays joined", 3, () -> m.kind(1));
        due("20 words", 44, m::collect);
        OwnMemory less = new OwnMemory(55);
        buildDoubled(less, 0, 8, 5);
        buildDoubled(less, 1, 8, 5);
        thrown("20 full for a", FULL, () -> less.compare(0, 1));
        due("20 a stays joined", 3, () -> less.kind(0));
        OwnMemory just = new OwnMemory(64);
        buildDoubled(just, 0, 8, 5);
        buildDoubled(just, 1, 8, 5);
        due("20 just not full", 0, () -> just.compare(0, 1));
    }

    private static void namesGiven() {
        OwnMemory m = new OwnMemory(2000);
        m.text(0, 0x00010002L, 2);
        m.name(1, 0);
        due("21 a name", 5, () -> m.kind(1));
        due("21 the text is none", 2, () -> m.kind(0));
        m.text(2, 0x000500010002L, 2);
        m.name(3, 2);
        due("21 one for equal texts", true, () -> m.same(1, 3));
        m.name(4, 3);
        due("21 the name of a name", true, () -> m.same(1, 4));
        m.text(2, 0x000100020000L, 3);
        m.name(3, 2);
        due("21 a unit 0 more is another name", false, () -> m.same(1, 3));
        due("21 its length", 3, () -> m.length(3));
        m.text(2, 0x00010003L, 2);
        m.name(3, 2);
        due("21 another unit is another name", false, () -> m.same(1, 3));
        m.text(2, 0x000100020003L, 3);
        m.name(3, 2);
        m.text(2, 0x0001000200030000L, 4);
        m.name(4, 2);
        due("21 a unit 0 more in the same words", false, () -> m.same(3, 4));
        m.text(5, 0, 0);
        m.name(6, 5);
        m.text(5, 0, 0);
        m.name(5, 5);
        due("21 the empty name", true, () -> m.same(5, 6));
        build(m, 7, 1, 40);
        m.name(8, 7);
        due("21 a joined one is spread", 4, () -> m.kind(7));
        due("21 the units of its name", 0, () -> m.compare(7, 8));
        m.part(9, 7, 0, 40);
        m.name(9, 9);
        due("21 by a part", true, () -> m.same(8, 9));
        m.take(10, 1, 1, 1);
        m.tie(10, 0, 1);
        m.drop(1);
        m.drop(4);
        m.collect();
        m.name(1, 0);
        m.lead(10, 0, 4);
        due("21 a link keeps a name", true, () -> m.same(1, 4));
        for (int r : NO_ROOTS) {
            thrown("21 to root " + r, WRONG, () -> m.name(r, 0));
            thrown("21 of root " + r, WRONG, () -> m.name(0, r));
        }
        thrown("21 of a block", WRONG, () -> m.name(0, 10));
        thrown("21 of nothing", WRONG, () -> m.name(0, 11));
        due("21 a wrong call changes nothing", 2, () -> m.kind(0));
        namesGone();
        namesMany();
    }

    private static void namesGone() {
        OwnMemory m = new OwnMemory(20);
        m.text(0, 0x0001000200030004L, 4);
        m.name(1, 0);
        due("21 a name's words", 12, m::collect);
        m.drop(1);
        due("21 a name goes", 6, m::collect);
        m.name(1, 0);
        m.drop(1);
        m.take(2, 0, 0, 6);
        m.copy(3, 0);
        thrown("21 a name that is not there is new, and full", FULL, () -> m.name(0, 0));
        due("21 then the root stays", true, () -> m.same(0, 3));
        m.drop(2);
        m.take(2, 0, 0, 5);
        done("21 just not full", () -> m.name(1, 0));
        due("21 the limit itself", 20, m::collect);
        done("21 a name that is there is never full", () -> m.name(4, 0));
        due("21 that one", true, () -> m.same(1, 4));
        OwnMemory spread = new OwnMemory(44);
        buildDoubled(spread, 0, 8, 5);
        thrown("21 full behind the spreading", FULL, () -> spread.name(1, 0));
        due("21 what was spread stays", 4, () -> spread.kind(0));
        due("21 no name", 0, () -> spread.kind(1));
        OwnMemory dead = new OwnMemory(300);
        dead.text(0, 1, 1);
        dead.name(1, 0);
        dead.drop(1);
        dead.name(1, 0);
        due("21 given again, it counts", 10, dead::collect);
    }

    private static void namesMany() {
        OwnMemory m = new OwnMemory(10_000);
        for (int i = 0; i < 80; i++) {
            m.text(0, i, 1);
            m.name(1, 0);
            m.take(2, 2, 0, 0);
            m.tie(2, 0, 1);
            m.tie(2, 1, 3);
            m.copy(3, 2);
        }
        m.drop(1);
        m.drop(2);
        due("21 many names", 80 * 10 + 5, m::collect);
        m.text(0, 0, 1);
        m.name(1, 0);
        due("21 none of them twice", 80 * 10 + 5, m::collect);
        due("21 the name of 0", 0, () -> m.unit(1, 0));
    }

    private static void collects() {
        OwnMemory m = new OwnMemory(1000);
        for (int i = 0; i < 8; i++) {
            m.take(i, 1, 1, 1);
            m.set(i, 0, i);
            m.number(i, 0, -i);
        }
        for (int i = 0; i < 8; i++) {
            m.tie(i, 0, (i + 2) % 8);
        }
        m.refer(1, 0, 3);
        for (int i = 1; i < 8; i++) {
            m.drop(i);
        }
        due("22 a cycle of four is there", 28, m::collect);
        for (int i = 0; i < 8; i += 2) {
            int want = i;
            due("22 slid together", want, () -> m.get(0, 0));
            due("22 with its number", (long) -want, () -> m.bits(0, 0));
            m.lead(0, 0, 0);
        }
        due("22 all round", 0, () -> m.get(0, 0));
        m.drop(0);
        due("22 all gone", 0, m::collect);
        due("22 and again", 0, m::collect);
        referencesSlide();
    }

    private static void referencesSlide() {
        OwnMemory m = new OwnMemory(1000);
        m.take(9, 0, 0, 16);
        m.take(0, 0, 2, 0);
        m.text(1, 5, 1);
        m.refer(0, 1, 1);
        m.number(0, 0, 25);
        m.copy(2, 1);
        m.drop(9);
        due("22 words", 12, m::collect);
        due("22 a reference slides", true, () -> m.follow(0, 1, 3));
        due("22 to the same object", true, () -> m.same(2, 3));
        due("22 a number does not", 25L, () -> m.bits(0, 0));
        m.take(4, 0, 0, 0);
        m.copy(4, 5);
        m.drop(0);
        m.drop(1);
        m.drop(2);
        due("22 a root alone", 5, m::collect);
        due("22 keeps it", 5, () -> m.unit(3, 0));
    }

    private static void stresses() {
        OwnMemory m = new OwnMemory(1000);
        for (int n : new int[] {-1, Integer.MIN_VALUE}) {
            thrown("23 " + n, WRONG, () -> m.stress(n));
        }
        for (int n : new int[] {0, 1, 2, 3, 7, Integer.MAX_VALUE}) {
            OwnMemory s = new OwnMemory(400);
            done("23 " + n, () -> s.stress(n));
            build(s, 0, 1, 40);
            s.name(1, 0);
            s.drop(0);
            build(s, 2, 1, 41);
            s.part(2, 2, 0, 40);
            s.name(2, 2);
            due("23 no answer changes, " + n, true, () -> s.same(1, 2));
            due("23 nor the words, " + n, 24, s::collect);
            done("23 back to 0", () -> s.stress(0));
        }
    }

    /** That memory is collected changes no answer, so only the words in use inside can tell, if they are held so. */
    private static int wordsInUse(OwnMemory m, int otherwise) {
        try {
            Field used = OwnMemory.class.getDeclaredField("used");
            used.setAccessible(true);
            return used.getInt(m);
        } catch (ReflectiveOperationException e) {
            System.out.println("23 it cannot be seen when memory is collected: " + e);
            return otherwise;
        }
    }

    private static void stressCollects() {
        OwnMemory m = new OwnMemory(1000);
        m.take(0, 0, 0, 7);
        m.stress(3);
        int[] inUse = {20, 30, 20, 30, 40, 20, 30};
        for (int i = 0; i < inUse.length; i++) {
            m.take(0, 0, 0, 7);
            int want = inUse[i];
            due("23 collects before each third object, after " + (i + 1), want, () -> wordsInUse(m, want));
        }
        m.stress(1);
        for (int i = 0; i < 3; i++) {
            m.take(0, 0, 0, 7);
            due("23 collects before each object", 20, () -> wordsInUse(m, 20));
        }
    }

    public static void main(String[] args) {
        newObject();
        take();
        copyDropKindSame();
        links();
        values();
        plainWords();
        texts();
        joins();
        parts();
        unitsAndSpreading();
        compares();
        namesGiven();
        collects();
        stresses();
        stressCollects();
        end();
    }
}
