import java.util.ArrayDeque;
import java.util.Arrays;
import java.util.Collections;
import java.util.IdentityHashMap;
import java.util.Objects;
import java.util.Random;
import java.util.Set;

/**
 * Runs of calls drawn with fixed seeds, each answer against a model that keeps the document's words with Java
 * objects and looks for what is there by going over all of it before each object that is made.
 */
public final class ModelTest {
    private static final int RUNS = 3_000;
    /** What calls behind these answer is free. */
    private static final int CALLS = 512;
    /** How many of them are left to look at the end of each second run. */
    private static final int CALLS_AT_END = 200;
    private static final String[] CALL_NAMES = {"take", "copy", "drop", "kind", "same", "tie", "lead", "number", "refer",
        "bits", "follow", "set", "get", "text", "join", "part", "length", "unit", "compare", "name", "collect",
        "stress"};

    /** An object of the model: a block when links is not null, otherwise a text. */
    private static final class Thing {
        Thing[] links;
        Object[] values;
        int[] plain;
        int[] units;
        Thing left;
        Thing right;
        Thing flat;
        boolean isName;

        int words() {
            if (links != null) {
                return 3 + links.length + 2 * values.length + plain.length;
            }
            return left != null || flat != null ? 6 : 4 + (units.length + 1) / 2;
        }

        int kind() {
            if (links != null) {
                return 1;
            }
            if (isName) {
                return 5;
            }
            return left != null ? 3 : flat != null ? 4 : 2;
        }
    }

    private static final class Model {
        final int limit;
        final Thing[] roots = new Thing[24];

        Model(int limit) {
            this.limit = Math.max(16, Math.min(1_048_576, limit));
        }

        static void need(boolean right) {
            if (!right) {
                throw new IllegalArgumentException();
            }
        }

        Set<Thing> there() {
            Set<Thing> seen = Collections.newSetFromMap(new IdentityHashMap<>());
            ArrayDeque<Thing> open = new ArrayDeque<>();
            for (Thing root : roots) {
                see(root, seen, open);
            }
            while (!open.isEmpty()) {
                Thing t = open.pop();
                see(t.left, seen, open);
                see(t.right, seen, open);
                see(t.flat, seen, open);
                if (t.links != null) {
                    for (Thing link : t.links) {
                        see(link, seen, open);
                    }
                    for (Object value : t.values) {
                        if (value instanceof Thing) {
                            see((Thing) value, seen, open);
                        }
                    }
                }
            }
            return seen;
        }

        private static void see(Thing t, Set<Thing> seen, ArrayDeque<Thing> open) {
            if (t != null && seen.add(t)) {
                open.push(t);
            }
        }

        int words() {
            int all = 0;
            for (Thing t : there()) {
                all += t.words();
            }
            return all;
        }

        Thing made(Thing t) {
            if (words() + t.words() > limit) {
                throw new IllegalStateException();
            }
            return t;
        }

        Thing root(int r) {
            need(r >= 0 && r < 24);
            return roots[r];
        }

        Thing block(int r) {
            Thing t = root(r);
            need(t != null && t.links != null);
            return t;
        }

        Thing text(int r) {
            Thing t = root(r);
            need(t != null && t.links == null);
            return t;
        }

        static Thing flatOf(int[] units) {
            Thing t = new Thing();
            t.units = units;
            return t;
        }

        void goOver(Thing t) {
            if (t.left != null) {
                t.flat = made(flatOf(t.units));
                t.left = null;
                t.right = null;
            }
        }

        Object take(int r, int links, int values, int plain) {
            root(r);
            need(links >= 0 && links <= 8 && values >= 0 && values <= 8 && plain >= 0 && plain <= 16);
            Thing t = new Thing();
            t.links = new Thing[links];
            t.values = new Object[values];
            Arrays.fill(t.values, 0L);
            t.plain = new int[plain];
            roots[r] = made(t);
            return "done";
        }

        Object join(int r, int a, int b) {
            root(r);
            Thing first = text(a);
            Thing second = text(b);
            int n = first.units.length + second.units.length;
            if (n > 4000) {
                throw new IllegalStateException();
            }
            if (first.units.length == 0) {
                roots[r] = second;
            } else if (second.units.length == 0) {
                roots[r] = first;
            } else {
                int[] units = Arrays.copyOf(first.units, n);
                System.arraycopy(second.units, 0, units, first.units.length, second.units.length);
                Thing t = flatOf(units);
                if (n > 24) {
                    t.left = first;
                    t.right = second;
                }
                roots[r] = made(t);
            }
            return "done";
        }

        Object name(int r, int s) {
            root(r);
            Thing t = text(s);
            if (!t.isName) {
                goOver(t);
                Thing known = null;
                for (Thing other : there()) {
                    if (other.isName && Arrays.equals(other.units, t.units)) {
                        known = other;
                    }
                }
                if (known == null) {
                    known = made(flatOf(t.units));
                    known.isName = true;
                }
                t = known;
            }
            roots[r] = t;
            return "done";
        }

        Object textOf(int r, long bits, int n) {
            root(r);
            need(n >= 0 && n <= 4);
            int[] units = new int[n];
            for (int k = 0; k < n; k++) {
                units[n - 1 - k] = (int) (bits >>> 16 * k) & 0xFFFF;
            }
            roots[r] = made(flatOf(units));
            return "done";
        }

        Object part(int r, int s, int from, int to) {
            root(r);
            Thing t = text(s);
            need(0 <= from && from <= to && to <= t.units.length);
            goOver(t);
            roots[r] = made(flatOf(Arrays.copyOfRange(t.units, from, to)));
            return "done";
        }

        Object compare(int a, int b) {
            Thing first = text(a);
            Thing second = text(b);
            goOver(first);
            goOver(second);
            return Integer.signum(Arrays.compare(first.units, second.units));
        }

        Object value(int what, int r, int k, int s, long bits) {
            Thing t = block(r);
            need(k >= 0 && k < t.values.length);
            if (what == 7) {
                need(bits >>> 48 != 0xFFFA);
                t.values[k] = bits;
                return "done";
            }
            if (what == 9) {
                need(!(t.values[k] instanceof Thing));
                return t.values[k];
            }
            Thing held = root(s);
            if (what == 8) {
                need(held != null);
                t.values[k] = held;
                return "done";
            }
            if (!(t.values[k] instanceof Thing)) {
                return false;
            }
            roots[s] = (Thing) t.values[k];
            return true;
        }

        Object link(int what, int r, int k, int s) {
            Thing t = block(r);
            need(k >= 0 && k < t.links.length);
            Thing held = root(s);
            if (what == 5) {
                t.links[k] = held;
            } else {
                roots[s] = t.links[k];
            }
            return "done";
        }

        Object plain(int what, int r, int k, int v) {
            Thing t = block(r);
            need(k >= 0 && k < t.plain.length);
            if (what == 12) {
                return t.plain[k];
            }
            t.plain[k] = v;
            return "done";
        }

        Object unit(int r, int k) {
            Thing t = text(r);
            need(k >= 0 && k < t.units.length);
            goOver(t);
            return t.units[k];
        }

        Object same(int r, int s) {
            Thing first = root(r);
            return first == root(s);
        }

        Object copy(int r, int s) {
            root(r);
            roots[r] = root(s);
            return "done";
        }

        Object drop(int r) {
            root(r);
            roots[r] = null;
            return "done";
        }

        Object call(int what, int[] n, long bits) {
            switch (what) {
                case 0: return take(n[0], n[1], n[2], n[3]);
                case 1: return copy(n[0], n[1]);
                case 2: return drop(n[0]);
                case 3: return root(n[0]) == null ? 0 : root(n[0]).kind();
                case 4: return same(n[0], n[1]);
                case 5:
                case 6: return link(what, n[0], n[1], n[2]);
                case 7:
                case 8:
                case 9:
                case 10: return value(what, n[0], n[1], n[2], bits);
                case 11:
                case 12: return plain(what, n[0], n[1], n[2]);
                case 13: return textOf(n[0], bits, n[1]);
                case 14: return join(n[0], n[1], n[2]);
                case 15: return part(n[0], n[1], n[2], n[3]);
                case 16: return text(n[0]).units.length;
                case 17: return unit(n[0], n[1]);
                case 18: return compare(n[0], n[1]);
                case 19: return name(n[0], n[1]);
                case 20: return words();
                default:
                    need(n[0] >= 0);
                    return "done";
            }
        }
    }

    private static Object callReal(OwnMemory m, int what, int[] n, long bits) {
        switch (what) {
            case 0: m.take(n[0], n[1], n[2], n[3]); break;
            case 1: m.copy(n[0], n[1]); break;
            case 2: m.drop(n[0]); break;
            case 3: return m.kind(n[0]);
            case 4: return m.same(n[0], n[1]);
            case 5: m.tie(n[0], n[1], n[2]); break;
            case 6: m.lead(n[0], n[1], n[2]); break;
            case 7: m.number(n[0], n[1], bits); break;
            case 8: m.refer(n[0], n[1], n[2]); break;
            case 9: return m.bits(n[0], n[1]);
            case 10: return m.follow(n[0], n[1], n[2]);
            case 11: m.set(n[0], n[1], n[2]); break;
            case 12: return m.get(n[0], n[1]);
            case 13: m.text(n[0], bits, n[1]); break;
            case 14: m.join(n[0], n[1], n[2]); break;
            case 15: m.part(n[0], n[1], n[2], n[3]); break;
            case 16: return m.length(n[0]);
            case 17: return m.unit(n[0], n[1]);
            case 18: return m.compare(n[0], n[1]);
            case 19: m.name(n[0], n[1]); break;
            case 20: return m.collect();
            default: m.stress(n[0]); break;
        }
        return "done";
    }

    /** How a run draws: few roots make calls meet, a low limit makes them full, few units make names equal. */
    private static final class Draw {
        final Random random;
        final int roots;
        final int manyUnits;
        final int textual;
        final int collects;

        Draw(int seed) {
            random = new Random(seed);
            roots = 2 + random.nextInt(seed % 3 == 0 ? 22 : 5);
            manyUnits = random.nextBoolean() ? 2 : 65536;
            textual = random.nextInt(4);
            collects = random.nextInt(3);
        }

        int limit() {
            int[] limits = {16, 30, 64, 100, 150, 260, 300, 600, 1000, 5000, 20_000, 1_048_576};
            return limits[random.nextInt(limits.length)] + random.nextInt(7) - 3;
        }

        int call() {
            int what = random.nextInt(CALL_NAMES.length);
            if (textual > 0 && random.nextInt(4) < textual) {
                int[] texts = {13, 14, 14, 14, 15, 17, 18, 19, 19, 2, 1};
                what = texts[random.nextInt(texts.length)];
            }
            boolean isSpared = what >= 20 && random.nextInt(10) >= collects * 4;
            return isSpared ? 3 : what;
        }

        int root() {
            return random.nextInt(150) == 0 ? oddInt() : random.nextInt(roots);
        }

        int oddInt() {
            int[] odd = {-1, 24, 25, Integer.MIN_VALUE, Integer.MAX_VALUE, -24, 4001, 1 << 20};
            return odd[random.nextInt(odd.length)];
        }

        int upTo(int most) {
            return random.nextInt(60) == 0 ? (random.nextBoolean() ? oddInt() : most + 1) : random.nextInt(most + 1);
        }

        long bits(int what) {
            if (what == 13) {
                long units = 0;
                for (int k = 0; k < 4; k++) {
                    units = units << 16 | random.nextInt(manyUnits);
                }
                return units;
            }
            return random.nextInt(8) == 0 ? 0xFFFA000000000000L | random.nextInt() : random.nextLong();
        }

        int[] numbers(int what, Model model) {
            int[] n = {root(), root(), root(), 0};
            if (what == 0) {
                n[1] = upTo(8);
                n[2] = upTo(8);
                n[3] = upTo(16);
            } else if (what >= 5 && what <= 12) {
                n[1] = upTo(what >= 11 ? 15 : 7);
                n[2] = what >= 11 ? random.nextInt() : n[2];
            } else if (what == 13) {
                n[1] = upTo(4);
            } else if (what == 15) {
                int length = lengthIn(model, n[1]);
                n[2] = upTo(length);
                n[3] = upTo(length);
                if (n[2] > n[3] && random.nextInt(8) > 0) {
                    n[2] = random.nextBoolean() ? 0 : n[3];
                }
            } else if (what == 17) {
                n[1] = upTo(Math.max(0, lengthIn(model, n[0]) - 1));
            } else if (what == 21) {
                n[0] = upTo(5);
            }
            return n;
        }

        private static int lengthIn(Model model, int r) {
            Thing t = r >= 0 && r < 24 ? model.roots[r] : null;
            return t == null || t.units == null ? 3 : t.units.length;
        }
    }

    private static Object answer(RuntimeException e) {
        return e.getClass();
    }

    private static boolean isRunRight(int seed) {
        Draw draw = new Draw(seed);
        int limit = draw.limit();
        OwnMemory real = new OwnMemory(limit);
        Model model = new Model(limit);
        StringBuilder said = new StringBuilder("new OwnMemory(" + limit + ")\n");
        if (seed % 4 == 1) {
            real.stress(1 + seed % 3);
        }
        boolean isLookedAt = seed % 2 == 0;
        int calls = CALLS - (seed % 4 == 1 ? 1 : 0) - (isLookedAt ? CALLS_AT_END : 0);
        for (int i = 0; i < calls; i++) {
            int what = draw.call();
            int[] n = draw.numbers(what, model);
            long bits = draw.bits(what);
            Object want;
            Object got;
            try {
                want = model.call(what, n, bits);
            } catch (RuntimeException e) {
                want = answer(e);
            }
            try {
                got = callReal(real, what, n, bits);
            } catch (RuntimeException e) {
                got = answer(e);
            }
            said.append(CALL_NAMES[what]).append(Arrays.toString(n)).append(' ').append(bits).append(" -> ")
                .append(got).append('\n');
            if (!Objects.equals(want, got)) {
                System.out.println("run " + seed + ", due is " + want + " in the last row:\n" + said);
                return false;
            }
        }
        return !isLookedAt || isEndRight(seed, real, model);
    }

    /** Looks at what roots and blocks hold when a run has ended, as far as the calls that are left reach. */
    private static boolean isEndRight(int seed, OwnMemory real, Model model) {
        int left = CALLS_AT_END - 1;
        boolean right = real.collect() == model.words();
        for (int r = 0; r < 24; r++) {
            Thing t = model.roots[r];
            right &= real.kind(r) == (t == null ? 0 : t.kind());
            right &= real.same(r, (r + 1) % 24) == (t == model.roots[(r + 1) % 24]);
            left -= 2;
        }
        for (int r = 0; r < 24 && left >= 40; r++) {
            Thing t = model.roots[r];
            if (t != null) {
                right &= t.links == null ? isTextRight(real, r, t) : isBlockRight(real, r, t);
                left -= 40;
            }
        }
        if (!right) {
            System.out.println("run " + seed + ": not as due at the end");
        }
        return right;
    }

    /** In at most 40 calls. */
    private static boolean isTextRight(OwnMemory real, int r, Thing t) {
        int n = t.units.length;
        boolean right = real.length(r) == n;
        for (int k = 0; t.left == null && k < n; k += 1 + n / 30) {
            right &= real.unit(r, k) == t.units[k];
        }
        return right;
    }

    /** In at most 24 calls. */
    private static boolean isBlockRight(OwnMemory real, int r, Thing t) {
        boolean right = true;
        for (int k = 0; k < t.plain.length; k++) {
            right &= real.get(r, k) == t.plain[k];
        }
        for (int k = 0; k < t.values.length; k++) {
            right &= t.values[k] instanceof Thing || real.bits(r, k) == (Long) t.values[k];
        }
        return right;
    }

    public static void main(String[] args) {
        int wrong = 0;
        for (int seed = 0; seed < RUNS && wrong < 5; seed++) {
            wrong += isRunRight(seed) ? 0 : 1;
        }
        System.out.println(wrong == 0 ? "all answers are as due" : wrong + " runs are not as due");
        if (wrong != 0) {
            System.exit(1);
        }
    }
}
