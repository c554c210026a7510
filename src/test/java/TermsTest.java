/**
 * Each sentence under 'What it is' and 'Terms' of the document that names a boundary case: at the boundary itself, and at
 * the first value beyond it. What single promises name is tested by BoundariesTest.
 */
public final class TermsTest extends Check {

    // "An object is used for at most 512 calls after it has been made"

    private static void deepTextOf512Calls() {
        for (boolean isFirst : new boolean[] {true, false}) {
            OwnMemory m = new OwnMemory(10_000);
            m.text(1, 9, 1);
            buildDoubled(m, 0, 8, 4);
            for (int call = 7; call <= 509; call++) {
                m.join(0, isFirst ? 0 : 1, isFirst ? 1 : 0);
            }
            int n = 16 + 503;
            due("call 510 at the deep end", 8, () -> m.unit(0, isFirst ? 0 : n - 1));
            due("call 511 at the other end", 9, () -> m.unit(0, isFirst ? n - 1 : 0));
            due("call 512 has all words", 5 + 6 + 4 + (n + 1) / 2, m::collect);
        }
    }

    /** As many parts as 4,000 units can have, nearly: 24 units and 226 single ones, four times doubled. */
    private static void manyPartsOf512Calls() {
        for (boolean isFirst : new boolean[] {true, false}) {
            OwnMemory m = new OwnMemory(10_000);
            m.text(1, 9, 1);
            build(m, 0, 100, 24);
            for (int i = 0; i < 226; i++) {
                m.join(0, isFirst ? 0 : 1, isFirst ? 1 : 0);
            }
            for (int i = 0; i < 4; i++) {
                m.join(0, 0, 0);
            }
            int others = isFirst ? 24 : 0;
            int own = isFirst ? 0 : 226;
            for (int i = 0; i < 16; i++) {
                int from = 250 * i;
                due("the first of 24 in " + i, 100, () -> m.unit(0, from + own));
                due("the last of 24 in " + i, 123, () -> m.unit(0, from + own + 23));
                due("the first single one in " + i, 9, () -> m.unit(0, from + others));
                due("the last single one in " + i, 9, () -> m.unit(0, from + others + 225));
            }
            due("all are spread", 5 + 6 + 2004, m::collect);
        }
    }

    private static void deepBlocksOf512Calls() {
        OwnMemory m = new OwnMemory(10_000);
        m.stress(1);
        for (int i = 0; i < 170; i++) {
            m.take(0, 1, 0, 0);
            m.tie(0, 0, 1);
            m.copy(1, 0);
        }
        due("call 512 has all words of a chain", 170 * 4, m::collect);
    }

    private static void keptNamesOf512Calls() {
        OwnMemory m = new OwnMemory(10_000);
        int kept = 0;
        for (int i = 0; i < 18; i++) {
            m.take(2, 8, 0, 0);
            m.tie(2, 0, 3);
            m.copy(3, 2);
            for (int k = 1; k < 8; k++) {
                m.text(0, kept, 1);
                m.name(1, 0);
                m.tie(2, k, 1);
                kept++;
            }
        }
        due("all words of 126 names", 18 * 11 + kept * 5 + 5, m::collect);
        for (int i = 125; i > 90; i--) {
            m.text(0, i, 1);
            m.name(0, 0);
        }
        m.drop(0);
        m.drop(1);
        due("no name of them is there twice", 18 * 11 + kept * 5, m::collect);
    }

    private static void mostWordsOf512Calls() {
        OwnMemory m = new OwnMemory(1_048_576);
        buildMost(m, 0);
        int words = 2004;
        for (int i = 0; i < 29; i++) {
            m.take(2, 8, 0, 0);
            m.tie(2, 0, 1);
            m.copy(1, 2);
            words += 11;
            for (int k = 1; k < 8; k++) {
                m.part(3, 0, 0, 4000);
                m.tie(2, k, 3);
                words += 2004;
            }
        }
        int all = words;
        due("the most words of 507 calls", all, m::collect);
        due("the last unit of the last one", 4, () -> m.unit(3, 3999));
    }

    private static void refusedOnly() {
        OwnMemory m = new OwnMemory(16);
        for (int call = 1; call <= 511; call++) {
            int k = call;
            thrown("call " + call + " is refused", WRONG, () -> m.unit(k % 24, 0));
        }
        due("call 512 behind refused ones", 0, m::collect);
    }

    // "ROOTS 0 .. 23 each hold an OBJECT or nothing"

    private static void rootsHold() {
        OwnMemory m = new OwnMemory(200);
        for (int r = 0; r < 24; r++) {
            m.take(r, 0, 0, 1);
            m.set(r, 0, 100 + r);
        }
        due("24 roots hold 24 objects", 24 * 4, m::collect);
        for (int r = 0; r < 24; r++) {
            int root = r;
            due("root " + r + " holds its own", 100 + r, () -> m.get(root, 0));
        }
        for (int r = 0; r < 24; r++) {
            int root = r;
            m.drop(r);
            due("root " + r + " holds nothing", NOTHING, () -> m.kind(root));
            due("the others hold theirs", (23 - root) * 4, m::collect);
        }
    }

    // "it is there as long as a root leads to it, or an object that is there does"

    private static void thereByOthers() {
        gives("there by its last root alone", 4, m -> wordsGone(m, 6));
        gives("there by another root", 0, m -> {
            m.copy(9, 8);
            return wordsGone(m, 8);
        });
        gives("gone with all that leads to it", 11 + 6, m -> wordsGone(m, 0, 2));
        for (int k = 0; k < 8; k++) {
            int at = k;
            gives("there by link " + k + " of a block that is there", "0 true", m -> {
                m.copy(10, 7);
                m.drop(0);
                m.tie(8, at, 7);
                int gone = wordsGone(m, 7);
                m.lead(8, at, 9);
                return gone + " " + m.same(9, 10);
            });
            gives("there by that link alone", 0, m -> {
                m.tie(8, at, 7);
                return wordsGone(m, 7);
            });
            gives("there by value " + k + " of a block that is there", "0 true", m -> {
                m.copy(10, 7);
                m.drop(0);
                m.refer(8, at, 7);
                int gone = wordsGone(m, 7);
                m.follow(8, at, 9);
                return gone + " " + m.same(9, 10);
            });
            gives("there by that value alone", 0, m -> {
                m.refer(8, at, 7);
                return wordsGone(m, 7);
            });
        }
        gives("not there by a reference that became a number", 3, m -> {
            m.refer(8, 7, 7);
            m.number(8, 7, 0);
            return wordsGone(m, 7);
        });
        gives("not there by a link that was tied to nothing", 3, m -> {
            m.tie(8, 7, 7);
            m.tie(8, 7, 1);
            return wordsGone(m, 7);
        });
        gives("not there by a block that is not there", 46, m -> {
            m.tie(8, 7, 7);
            return wordsGone(m, 8, 7);
        });
        gives("there by a chain of links, references and texts", 0, m -> {
            m.take(9, 1, 1, 0);
            m.take(10, 1, 1, 0);
            m.tie(9, 0, 10);
            m.join(11, 3, 2);
            m.refer(10, 0, 11);
            m.drop(10);
            m.drop(11);
            return wordsGone(m, 3);
        });
    }

    /** How many words go when these roots hold nothing any more. */
    private static int wordsGone(OwnMemory m, int... roots) {
        int before = m.collect();
        for (int r : roots) {
            m.drop(r);
        }
        return before - m.collect();
    }

    // "Cycles, too, go when no root leads into them."

    private static void cycles() {
        gives("a block that is tied to itself", 43, m -> {
            m.tie(8, 0, 8);
            return wordsGone(m, 8);
        });
        gives("a block that refers to itself", 43, m -> {
            m.refer(8, 7, 8);
            return wordsGone(m, 8);
        });
        gives("a cycle of two, while a root leads into it", 0, m -> {
            m.take(9, 1, 1, 0);
            m.tie(9, 0, 8);
            m.refer(8, 0, 9);
            return wordsGone(m, 8);
        });
        gives("a cycle of two, when no root does", 43 + 6, m -> {
            m.take(9, 1, 1, 0);
            m.tie(9, 0, 8);
            m.refer(8, 0, 9);
            return wordsGone(m, 8, 9);
        });
        gives("a cycle that leads to what is there", 43, m -> {
            m.tie(8, 0, 8);
            m.tie(8, 1, 2);
            return wordsGone(m, 8);
        });
        gives("a cycle takes with it what it alone leads to", 43 + 6 + 17 + 4, m -> {
            m.tie(8, 0, 8);
            m.tie(8, 1, 4);
            m.refer(8, 0, 6);
            return wordsGone(m, 4, 6, 8);
        });
    }

    // "LINKS (0 .. 8; .. at first to nothing), VALUES (0 .. 8; .. at first 0 ..) and PLAIN words (0 .. 16 .., at first 0)"

    private static void atFirst() {
        OwnMemory m = new OwnMemory(60);
        m.take(1, 0, 0, 0);
        for (int round = 0; round < 3; round++) {
            m.take(0, 8, 8, 16);
            for (int k = 0; k < 16; k++) {
                int at = k;
                due("a plain word is 0 at first, round " + round, 0, () -> m.get(0, at));
                m.set(0, k, -1);
            }
            for (int k = 0; k < 8; k++) {
                int at = k;
                due("a value is 0 at first, round " + round, 0L, () -> m.bits(0, at));
                m.refer(0, k, 1);
                m.copy(2, 1);
                m.lead(0, k, 2);
                due("a link leads to nothing at first, round " + round, NOTHING, () -> m.kind(2));
                m.tie(0, k, 0);
            }
            m.drop(0);
            m.text(0, -1, 4);
            m.text(0, 0, 0);
        }
        m.text(0, -1, 4);
        m.text(0, 0, 3);
        due("a text has its own units where others lay", "0 0 0", () -> read(m, 0));
    }

    // "It takes 3 words, one for each link, two for each value, one for each plain word."

    private static void blockWords() {
        for (int links = 0; links <= 8; links++) {
            for (int values = 0; values <= 8; values++) {
                OwnMemory m = new OwnMemory(100);
                for (int plain = 0; plain <= 16; plain++) {
                    m.take(0, links, values, plain);
                    due("the words of a block " + links + " " + values + " " + plain, 3 + links + 2 * values + plain,
                        m::collect);
                }
            }
        }
    }

    // "A TEXT has UNITS, 0 .. 65535, at most 4,000, and never changes."

    private static void unitsOfTexts() {
        OwnMemory m = new OwnMemory(1000);
        int[] units = {0, 1, 255, 256, 0x7FFF, 0x8000, 0xFFFE, 0xFFFF};
        for (int unit : units) {
            m.text(0, unit, 1);
            due("unit " + unit, unit, () -> m.unit(0, 0));
            m.text(0, 0xFFFF0000L | unit, 2);
            due("unit " + unit + " behind the largest", unit, () -> m.unit(0, 1));
            m.text(0, (long) unit << 16 | 0xFFFF, 2);
            due("unit " + unit + " before the largest", unit, () -> m.unit(0, 0));
            m.text(0, unit - 0x10000L, 1);
            due("unit " + unit + " of a number below 0", unit, () -> m.unit(0, 0));
        }
        gives("a text never changes", "1 2 3", m2 -> {
            m2.join(9, 2, 3);
            m2.join(10, 3, 2);
            m2.join(11, 2, 2);
            m2.compare(9, 10);
            m2.part(12, 2, 0, 2);
            m2.name(13, 2);
            m2.join(12, 12, 2);
            m2.collect();
            return read(m2, 2);
        });
    }

    // "It is FLAT, and takes 4 words and one for each two units (rounded up)"

    private static void flatWords() {
        OwnMemory m = new OwnMemory(10_000);
        buildMost(m, 0);
        for (int n : new int[] {0, 1, 2, 3, 4, 5, 23, 24, 25, 26, 27, 3997, 3998, 3999, 4000}) {
            m.part(1, 0, 0, n);
            due("the words of a flat text of " + n, 2004 + 4 + (n + 1) / 2, m::collect);
            m.name(1, 1);
            due("the words of a name of " + n, 2004 + 4 + (n + 1) / 2, m::collect);
            m.drop(1);
        }
        OwnMemory joined = new OwnMemory(1000);
        joined.text(0, 1, 1);
        joined.text(1, 0, 0);
        for (int n = 1; n <= 24; n++) {
            joined.join(1, 1, 0);
            int itself = n == 1 ? 0 : 4 + (n + 1) / 2;
            due("the words of a text joined flat of " + n, 5 + itself, joined::collect);
        }
    }

    // "or JOINED: it takes 6 words and leads to two texts, its parts"

    private static void joinedWords() {
        gives("a joined text takes 6 words", 6, m -> {
            int before = m.collect();
            m.join(9, 3, 2);
            return m.collect() - before;
        });
        gives("it leads to its first part", 0, m -> {
            m.join(9, 4, 2);
            return wordsGone(m, 4);
        });
        gives("it leads to its second part", 0, m -> {
            m.join(9, 2, 4);
            return wordsGone(m, 4);
        });
        gives("the same part twice is there once", 6, m -> {
            int before = m.collect();
            m.join(4, 4, 4);
            return m.collect() - before;
        });
        gives("joined or not, it has all their units", "29 1 3 9", m -> {
            m.join(9, 2, 3);
            return m.length(9) + " " + m.unit(9, 0) + " " + m.unit(9, 2) + " " + m.unit(9, 28);
        });
    }

    // "When units of a joined text are GONE OVER it is SPREAD: it still takes 6 words, but leads .. to a flat text"

    private static void spreadWords() {
        gives("a spread one takes 6 words and a flat one's, its parts go", 17 - 16 - 5, m -> {
            int before = m.collect();
            m.unit(3, 0);
            return m.collect() - before;
        });
        gives("parts that are there by others stay", 19, m -> {
            m.join(9, 4, 2);
            int before = m.collect();
            m.unit(9, 0);
            return m.collect() - before;
        });
        gives("it is the same object", "true 4 4", m -> {
            m.copy(9, 3);
            m.unit(9, 0);
            return m.same(3, 9) + " " + m.kind(3) + " " + m.kind(9);
        });
        gives("it has the same units", "26 1 4 8 9", m -> {
            m.unit(3, 0);
            m.collect();
            return m.length(3) + " " + m.unit(3, 0) + " " + m.unit(3, 23) + " " + m.unit(3, 24) + " " + m.unit(3, 25);
        });
        gives("a joined part of it stays joined", "4 3", m -> {
            m.join(9, 3, 2);
            m.unit(9, 0);
            return m.kind(9) + " " + m.kind(3);
        });
        gives("a text that it is a part of stays joined", "4 3", m -> {
            m.join(9, 3, 2);
            m.unit(3, 0);
            return m.kind(3) + " " + m.kind(9);
        });
    }

    // "Two texts JOIN: .."

    private static void joinsOfEmpty() {
        for (int text : new int[] {2, 3, 4, 5}) {
            gives("the second one itself when the first one has no unit, " + text, true, m -> {
                m.join(9, 6, text);
                return m.same(9, text);
            });
            gives("the first one itself when the second one has none, " + text, true, m -> {
                m.join(9, text, 6);
                return m.same(9, text);
            });
            gives("which makes nothing and spreads nothing, " + text, true, m -> {
                String before = picture(m);
                m.join(9, 6, text);
                m.join(9, text, 6);
                m.drop(9);
                return before.equals(picture(m));
            });
        }
        gives("the second one when both have none", "true false", m -> {
            m.text(9, 0, 0);
            m.join(10, 6, 9);
            return m.same(10, 9) + " " + m.same(10, 6);
        });
        gives("an empty name, too, is nothing to join", true, m -> {
            m.name(9, 6);
            m.join(10, 9, 2);
            return m.same(10, 2);
        });
    }

    private static void joinsOf24() {
        for (int left = 1; left <= 24; left++) {
            OwnMemory m = new OwnMemory(400);
            build(m, 0, 100, left);
            build(m, 1, 200, 24 - left);
            build(m, 2, 200, 25 - left);
            if (left < 24) {
                m.join(3, 0, 1);
                due("24 units together are flat, " + left, FLAT, () -> m.kind(3));
                due("24 units, the first, " + left, 100, () -> m.unit(3, 0));
                due("24 units, the last of the first, " + left, 99 + m.length(0), () -> m.unit(3, m.length(0) - 1));
                due("24 units, the first of the second, " + left, 200, () -> m.unit(3, m.length(0)));
                due("24 units, the last, " + left, 199 + m.length(1), () -> m.unit(3, 23));
                m.join(3, 1, 0);
                due("24 units the other way, " + left, 100, () -> m.unit(3, m.length(1)));
            }
            m.join(4, 0, 2);
            due("25 units together are joined, " + left, JOINED, () -> m.kind(4));
            due("25 units, " + left, 25, () -> m.length(4));
            m.join(4, 2, 0);
            due("25 units the other way, " + left, JOINED, () -> m.kind(4));
            due("25 units the other way, the last, " + left, 99 + m.length(0), () -> m.unit(4, 24));
        }
        gives("a flat one by a name is no name", FLAT, m -> {
            m.join(9, 5, 5);
            return m.kind(9);
        });
    }

    // "To go over a text spreads it, unless it is flat or spread already."

    private static void goneOver() {
        ActOn[] ways = {m -> m.unit(3, 25), m -> m.compare(3, 2), m -> m.compare(2, 3), m -> m.part(9, 3, 0, 0),
            m -> m.name(9, 3)};
        for (int i = 0; i < ways.length; i++) {
            int way = i;
            gives("gone over it is spread, way " + i, SPREAD, m -> {
                ways[way].on(m);
                return m.kind(3);
            });
            gives("spread already, nothing is made of it, way " + i, true, m -> {
                ways[way].on(m);
                m.drop(9);
                String before = picture(m);
                m.unit(3, 0);
                m.compare(3, 3);
                return before.equals(picture(m));
            });
        }
        int[] kinds = {FLAT, NAME, FLAT};
        int[] texts = {2, 5, 6};
        for (int i = 0; i < texts.length; i++) {
            int text = texts[i];
            gives("a flat one stays flat, root " + text, kinds[i], m -> {
                m.compare(text, 3);
                m.part(9, text, 0, 0);
                m.name(9, text);
                return m.kind(text);
            });
        }
        gives("a length does not go over it", JOINED, m -> {
            m.length(3);
            m.copy(9, 3);
            m.join(9, 3, 2);
            m.tie(0, 1, 3);
            m.collect();
            return m.kind(3);
        });
    }

    // "to NAME a text that is a name gives itself; any other one is gone over, and gives the name .. or else a new one"

    private static void namesGiven() {
        gives("the name of a name is itself", "true true", m -> {
            String before = picture(m);
            m.name(9, 5);
            boolean isItself = m.same(9, 5);
            m.drop(9);
            return isItself + " " + before.equals(picture(m));
        });
        gives("the name that is there", "true true", m -> {
            String before = picture(m);
            m.name(9, 2);
            boolean isThat = m.same(9, 5);
            m.drop(9);
            return isThat + " " + before.equals(picture(m));
        });
        gives("a new one", "5 false 17", m -> {
            int before = m.collect();
            m.name(9, 4);
            return m.kind(9) + " " + m.same(9, 4) + " " + (m.collect() - before);
        });
        gives("a joined one is gone over", "5 4 26", m -> {
            m.name(9, 3);
            return m.kind(9) + " " + m.kind(3) + " " + m.length(9);
        });
        gives("a joined one is gone over, too, when its name is there", "true 4", m -> {
            m.join(10, 2, 4);
            m.join(11, 5, 4);
            m.name(12, 10);
            m.name(13, 11);
            return m.same(12, 13) + " " + m.kind(11);
        });
        gives("the name of a spread one and of its part", true, m -> {
            m.name(9, 4);
            m.part(10, 4, 0, 26);
            m.name(10, 10);
            return m.same(9, 10);
        });
        gives("the name has its text's units", 0, m -> {
            m.name(9, 3);
            return m.compare(9, 3);
        });
    }

    // "So names are the same when their units are."

    private static void namesSame() {
        long[][] texts = {{0, 0}, {0, 1}, {0, 2}, {0, 3}, {0, 4}, {1, 1}, {1, 2}, {0x10000L, 2}, {0x10000L, 3},
            {0x100000000L, 3}, {0xFFFF, 1}, {0xFFFFFFFFL, 2}, {0xFFFF0000L, 2}, {0x8000, 1}};
        OwnMemory m = new OwnMemory(1000);
        for (int i = 0; i < texts.length; i++) {
            m.text(i, texts[i][0], (int) texts[i][1]);
            m.name(i, i);
        }
        for (int i = 0; i < texts.length; i++) {
            m.text(20, texts[i][0], (int) texts[i][1]);
            m.name(20, 20);
            for (int j = 0; j < texts.length; j++) {
                int name = j;
                due("names " + i + " and " + j, i == j, () -> m.same(20, name));
            }
        }
        OwnMemory most = new OwnMemory(20_000);
        buildMost(most, 0);
        most.part(1, 0, 0, 3999);
        most.text(2, 5, 1);
        most.join(2, 1, 2);
        most.name(3, 0);
        most.name(4, 1);
        most.name(5, 2);
        due("one unit less of 4,000", false, () -> most.same(3, 4));
        due("the last one of 4,000 is another", false, () -> most.same(3, 5));
        most.text(2, 4, 1);
        most.join(2, 1, 2);
        most.name(5, 2);
        due("all 4,000 are the same", true, () -> most.same(3, 5));
    }

    // "(That a name was given once does not keep it there.)"

    private static void namesGo() {
        gives("a name goes with its last root", 6, m -> {
            int before = m.collect();
            m.drop(5);
            return before - m.collect();
        });
        gives("it is made again then", "5 true", m -> {
            int before = m.collect();
            m.drop(5);
            m.collect();
            m.name(5, 2);
            return m.kind(5) + " " + (m.collect() == before);
        });
        gives("another text with its units that lies where it lay is no name", "5 false", m -> {
            m.drop(8);
            m.name(9, 4);
            m.drop(9);
            m.collect();
            m.part(9, 4, 0, 26);
            m.name(10, 9);
            return m.kind(10) + " " + m.same(9, 10);
        });
        gives("names made before and behind it stay", "true true", m -> {
            m.name(9, 6);
            m.name(10, 4);
            m.drop(9);
            m.collect();
            m.name(11, 2);
            m.name(12, 4);
            return m.same(5, 11) + " " + m.same(10, 12);
        });
        gives("it stays by a link", true, m -> {
            m.tie(8, 7, 5);
            m.drop(5);
            m.collect();
            m.name(9, 2);
            m.lead(8, 7, 10);
            return m.same(9, 10);
        });
        gives("it stays by a reference", true, m -> {
            m.refer(8, 7, 5);
            m.drop(5);
            m.collect();
            m.name(9, 2);
            return m.follow(8, 7, 10) && m.same(9, 10);
        });
        gives("it stays as a part of a joined one", true, m -> {
            int before = m.collect();
            m.join(9, 5, 3);
            m.drop(5);
            m.name(5, 2);
            return m.collect() == before + 6;
        });
        OwnMemory m = new OwnMemory(16);
        m.text(0, 0x0001000200030004L, 4);
        m.name(1, 0);
        m.drop(1);
        done("a name that went leaves its words", () -> m.take(2, 0, 0, 7));
        thrown("its place is another's: it is new, and full", FULL, () -> m.name(1, 0));
        m.drop(2);
        done("in that place it is made again", () -> m.name(1, 0));
        due("the name of before's units", 0, () -> m.compare(0, 1));
    }

    // "What would be made is refused as FULL when its words, and those of all objects that are there, are more than .."

    /** Root 10 holds a joined text of 29 units whose parts are there by others, and so does root 11. */
    private static OwnMemory withFree(int free) {
        OwnMemory m = furnished();
        m.join(10, 4, 2);
        m.join(11, 5, 4);
        m.take(12, 0, 0, 7);
        leave(m, LIMIT, free);
        return m;
    }

    /** A call that makes one object, and spreads none: just so many words must be free. */
    private static void needs(String what, int words, ActOn call) {
        OwnMemory m = withFree(words);
        done(what + " with " + words + " words free", () -> call.on(m));
        due(what + " takes them all", LIMIT, m::collect);
        refusedOn(withFree(words - 1), what + " with a word less free", FULL, call);
        refusedOn(withFree(0), what + " with none free", FULL, call);
    }

    private static void fullAtOnce() {
        needs("take of the smallest", 3, m -> m.take(9, 0, 0, 0));
        needs("take of a link", 4, m -> m.take(9, 1, 0, 0));
        needs("take of a value", 5, m -> m.take(9, 0, 1, 0));
        needs("take of a plain word", 4, m -> m.take(9, 0, 0, 1));
        needs("take of the largest", 43, m -> m.take(9, 8, 8, 16));
        int[] textWords = {4, 5, 5, 6, 6};
        for (int n = 0; n <= 4; n++) {
            int units = n;
            needs("text of " + n, textWords[n], m -> m.text(9, -1, units));
        }
        needs("join, flat", 7, m -> m.join(9, 2, 5));
        needs("join, joined", 6, m -> m.join(9, 3, 2));
        needs("part of no unit", 4, m -> m.part(9, 2, 3, 3));
        needs("part of a flat one", 6, m -> m.part(9, 2, 0, 3));
        needs("part of a spread one", 17, m -> m.part(9, 4, 0, 26));
        needs("name of a flat one", 4, m -> m.name(9, 6));
        needs("name of a spread one", 17, m -> m.name(9, 4));
    }

    /** Root 12 holds a block of 10 words that goes only when the call is done. */
    private static void fullWithWhatRootHolds() {
        ActOn[] calls = {m -> m.take(12, 0, 0, 0), m -> m.text(12, 1, 1), m -> m.join(12, 2, 2), m -> m.join(12, 3, 2),
            m -> m.part(12, 2, 0, 1), m -> m.name(12, 6)};
        int[] words = {3, 5, 7, 6, 5, 4};
        for (int i = 0; i < calls.length; i++) {
            refusedOn(withFree(words[i] - 1), "what the root holds is there still, call " + i, FULL, calls[i]);
            OwnMemory m = withFree(words[i]);
            ActOn call = calls[i];
            done("with just so many words free, call " + i, () -> call.on(m));
            due("then it goes, call " + i, LIMIT - 10, m::collect);
        }
    }

    private static void neverFull() {
        CallOn[] calls = {m -> m.unit(2, 0), m -> m.unit(4, 25), m -> m.compare(2, 4), m -> m.compare(5, 6),
            m -> m.length(3), m -> answer(() -> nothingOf(() -> m.name(9, 5))),
            m -> answer(() -> nothingOf(() -> m.name(9, 2))), m -> answer(() -> nothingOf(() -> m.join(9, 6, 3))),
            m -> answer(() -> nothingOf(() -> m.join(9, 3, 6))), m -> answer(() -> nothingOf(() -> m.tie(8, 0, 8))),
            m -> answer(() -> nothingOf(() -> m.refer(8, 0, 8))), m -> answer(() -> nothingOf(() -> m.number(8, 0, 1))),
            m -> answer(() -> nothingOf(() -> m.set(8, 0, 1))), m -> answer(() -> nothingOf(() -> m.copy(9, 8)))};
        Object[] wants = {1, 4, -1, 1, 26, 0, 0, 0, 0, 0, 0, 0, 0, 0};
        for (int i = 0; i < calls.length; i++) {
            OwnMemory m = withFree(0);
            CallOn call = calls[i];
            due("what makes nothing is never full, call " + i, wants[i], () -> call.on(m));
            due("and takes nothing, call " + i, LIMIT, m::collect);
        }
    }

    private static Object nothingOf(Act act) {
        act.run();
        return 0;
    }

    private static void wrongThoughFull() {
        ActOn[] calls = {m -> m.take(9, 9, 0, 0), m -> m.take(24, 0, 0, 0), m -> m.text(9, 1, 5), m -> m.text(-1, 1, 1),
            m -> m.join(9, 0, 3), m -> m.join(24, 3, 3), m -> m.part(9, 3, 0, 27), m -> m.part(24, 3, 0, 0),
            m -> m.unit(3, 26), m -> m.unit(3, -1), m -> m.compare(3, 0), m -> m.compare(0, 3), m -> m.name(24, 3),
            m -> m.name(9, 0)};
        for (int i = 0; i < calls.length; i++) {
            refusedOn(withFree(0), "what is wrong is refused as wrong in a full memory, call " + i, WRONG, calls[i]);
        }
    }

    // "(but what was spread before that by the same call stays spread)", "makes its flat one while its parts are there"

    /** What roots 10 and 11 hold behind a call that is refused as full, or not. */
    private static void spreads(String what, int free, Object want, ActOn call) {
        OwnMemory m = withFree(free);
        due(what + " with " + free + " words free", want, () -> {
            Object answer = answer(() -> nothingOf(() -> call.on(m)));
            return (answer == FULL ? "full" : answer) + ", " + m.kind(10) + " " + m.kind(11) + ", " + m.kind(9);
        });
        if (want.toString().startsWith("full")) {
            int spread = (m.kind(10) == SPREAD ? 19 : 0) + (m.kind(11) == SPREAD ? 19 : 0);
            due(what + " with " + free + " words free: words", LIMIT - free + spread, m::collect);
        }
    }

    private static void fullWhenSpread() {
        spreads("unit", 18, "full, 3 3, 0", m -> m.unit(10, 0));
        spreads("unit", 19, "0, 4 3, 0", m -> m.unit(10, 0));
        spreads("part", 18, "full, 3 3, 0", m -> m.part(9, 10, 0, 5));
        spreads("part", 19, "full, 4 3, 0", m -> m.part(9, 10, 0, 5));
        spreads("part", 25, "full, 4 3, 0", m -> m.part(9, 10, 0, 5));
        spreads("part", 26, "0, 4 3, 2", m -> m.part(9, 10, 0, 5));
        spreads("part of no unit", 22, "full, 4 3, 0", m -> m.part(9, 10, 29, 29));
        spreads("part of no unit", 23, "0, 4 3, 2", m -> m.part(9, 10, 29, 29));
        spreads("compare", 18, "full, 3 3, 0", m -> m.compare(10, 11));
        spreads("compare", 19, "full, 4 3, 0", m -> m.compare(10, 11));
        spreads("compare", 37, "full, 4 3, 0", m -> m.compare(10, 11));
        spreads("compare", 38, "0, 4 4, 0", m -> m.compare(10, 11));
        spreads("compare, the other one first", 18, "full, 3 3, 0", m -> m.compare(11, 10));
        spreads("compare, the other one first", 37, "full, 3 4, 0", m -> m.compare(11, 10));
        spreads("compare, the other one first", 38, "0, 4 4, 0", m -> m.compare(11, 10));
        spreads("compare with a flat one", 18, "full, 3 3, 0", m -> m.compare(10, 2));
        spreads("compare with a flat one", 19, "0, 4 3, 0", m -> m.compare(10, 2));
        spreads("compare with itself", 19, "0, 4 3, 0", m -> m.compare(10, 10));
        spreads("name", 18, "full, 3 3, 0", m -> m.name(9, 10));
        spreads("name", 19, "full, 4 3, 0", m -> m.name(9, 10));
        spreads("name", 37, "full, 4 3, 0", m -> m.name(9, 10));
        spreads("name", 38, "0, 4 3, 5", m -> m.name(9, 10));
        OwnMemory m = furnished();
        m.join(10, 4, 2);
        m.join(11, 4, 2);
        m.name(9, 10);
        leave(m, LIMIT, 18);
        thrown("a text whose name is there is gone over first, and that is full", FULL, () -> m.name(12, 11));
        due("it is joined still", JOINED, () -> m.kind(11));
        m.drop(2);
        m.drop(0);
        done("with words enough to spread it", () -> m.name(12, 11));
        due("it is that name", true, () -> m.same(9, 12));
    }

    /** Root 3's parts (16 and 5 words) are there by it alone: they count while it is spread, and not behind that. */
    private static void partsAreThereStill() {
        OwnMemory less = withFree(16);
        refusedOn(less, "to spread with a word less than its flat one's", FULL, m -> m.unit(3, 0));
        OwnMemory just = withFree(17);
        due("to spread with its flat one's words", 1, () -> just.unit(3, 0));
        due("then its parts are gone", LIMIT - 21, just::collect);
        OwnMemory named = withFree(17);
        done("their words are free for what the call makes next", () -> named.name(9, 3));
        due("all words", LIMIT - 21 + 17, named::collect);
        OwnMemory divided = withFree(17);
        done("their words are free for a part", () -> divided.part(3, 3, 0, 26));
        due("which is all that is left in its root", LIMIT - 17 - 6 - 21 + 17, divided::collect);
        OwnMemory more = new OwnMemory(16 + 5 + 6 + 17 + 5);
        build26(more);
        more.take(5, 0, 0, 2);
        done("the name of one whose parts go", () -> more.name(2, 0));
        OwnMemory tight = new OwnMemory(16 + 5 + 6 + 17 + 4);
        build26(tight);
        tight.take(5, 0, 0, 2);
        thrown("a word less", FULL, () -> tight.name(2, 0));
        due("it is joined still", JOINED, () -> tight.kind(0));
    }

    /** A joined text of 24 and 2 units in root 0, and its parts in none. */
    private static void build26(OwnMemory m) {
        m.text(1, 0x0001000200030004L, 4);
        m.join(0, 1, 1);
        m.join(1, 0, 0);
        m.join(1, 1, 0);
        m.text(0, 0x00080009L, 2);
        m.join(0, 1, 0);
        m.drop(1);
    }

    // "Words count as above, wherever they lie"

    private static void whereverTheyLie() {
        OwnMemory m = new OwnMemory(22 * 10 + 5);
        m.text(22, 1, 1);
        for (int r = 0; r < 22; r++) {
            m.take(r, 0, 0, 7);
            m.set(r, 6, r);
        }
        thrown("all words are taken", FULL, () -> m.take(23, 0, 0, 0));
        for (int r = 0; r < 22; r += 2) {
            m.drop(r);
        }
        done("many small places together hold a large block", () -> m.take(0, 8, 8, 16));
        done("and another one", () -> m.take(2, 8, 8, 16));
        done("and the last words", () -> m.take(4, 0, 4, 13));
        thrown("and no more", FULL, () -> m.take(23, 0, 0, 0));
        for (int r = 1; r < 22; r += 2) {
            int root = r;
            due("the others stay, root " + r, r, () -> m.get(root, 6));
        }
        due("all words", 225, m::collect);
    }

    // "Memory may be collected at any moment; .. This changes no answer."

    private static void noAnswerChanges() {
        String want = longRun(0, false);
        for (int n : new int[] {1, 2, 3, 4, 5, 7, 11, Integer.MAX_VALUE}) {
            due("told to collect before each " + n + "-th object", want, () -> longRun(n, false));
        }
        due("collected between all calls", want, () -> longRun(0, true));
        due("collected between all calls and before each object", want, () -> longRun(1, true));
    }

    /** Some 300 calls that make, join, spread, name, tie and drop in a memory that is full now and then. */
    private static String longRun(int stress, boolean collects) {
        OwnMemory m = new OwnMemory(400);
        StringBuilder answers = new StringBuilder();
        m.stress(stress);
        for (int r = 0; r < 7; r++) {
            m.text(r, r, 1 + r % 4);
        }
        for (int i = 0; i < 17; i++) {
            int round = i;
            ActOn[] calls = {x -> x.text(round % 5, round % 3, 1 + round % 4), x -> x.join(5, round % 5, 5),
                x -> x.join(6, 5, (round + 1) % 5), x -> x.name(7 + round % 3, round % 7), x -> x.unit(5, 0),
                x -> x.take(10, 2, 1, round % 17), x -> x.tie(10, 0, 11), x -> x.refer(10, 0, 5 + round % 4),
                x -> x.copy(round % 4 == 3 ? 12 : 11, 10), x -> x.join(5, 6, 5)};
            for (ActOn call : calls) {
                if (collects) {
                    m.collect();
                }
                answers.append(answer(() -> nothingOf(() -> call.on(m)))).append(' ');
            }
            answers.append(m.kind(5)).append(m.kind(6)).append(m.same(7, 8)).append(m.length(5)).append(' ');
            answers.append(answer(() -> m.compare(6, round % 5))).append(' ').append(m.collect()).append('\n');
        }
        return answers.toString();
    }

    public static void main(String[] args) {
        deepTextOf512Calls();
        manyPartsOf512Calls();
        deepBlocksOf512Calls();
        keptNamesOf512Calls();
        mostWordsOf512Calls();
        refusedOnly();
        rootsHold();
        thereByOthers();
        cycles();
        atFirst();
        blockWords();
        unitsOfTexts();
        flatWords();
        joinedWords();
        spreadWords();
        joinsOfEmpty();
        joinsOf24();
        goneOver();
        namesGiven();
        namesSame();
        namesGo();
        fullAtOnce();
        fullWithWhatRootHolds();
        neverFull();
        wrongThoughFull();
        fullWhenSpread();
        partsAreThereStill();
        whereverTheyLie();
        noAnswerChanges();
        end();
    }
}
