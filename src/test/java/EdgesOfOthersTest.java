/** The sentences that name an edge, an empty, a full or a refused case: promises 54 to 69. */
public final class EdgesOfOthersTest extends Checks {
    private static final Scene NEW = StuckatBench::new;
    private static final String SIGNS = "^v01zo";
    private static final Scene RIGHT = () -> marching("^0^z1vo0");
    private static final Scene WRONG = () -> marching("^0o");
    private static final Scene TYPED = () -> marching("^0^z1vo0^0^z1vo0^0^z1vo0");
    private static final Scene BITS = () -> {
        StuckatBench x = new StuckatBench();
        x.bad(0, 1, true);
        x.bad(0, 5, true);
        x.bad(3, 1, true);
        return x;
    };
    private static final Scene ALL_BAD = () -> {
        StuckatBench x = new StuckatBench();
        for (int bit = 0; bit < 64; bit++) x.bad(bit / 8, bit % 8, true);
        return x;
    };
    private static final Scene WIRES = () -> {
        StuckatBench x = new StuckatBench();
        x.board(5, 'o');
        x.openWire(2, 1);
        x.shortWires(0, 3);
        return x;
    };
    private static final Scene CORES = () -> {
        StuckatBench x = new StuckatBench();
        x.core(5, 2, 3);
        x.core(4, 3, 3);
        x.core(6, 2, 3);
        return x;
    };
    private static final Scene SIX = () -> {
        StuckatBench x = CORES.built();
        x.core(1, 1, 0);
        x.core(999, 64, 999);
        x.core(2, 2, 2);
        return x;
    };

    public static void main(String[] args) {
        signs();
        erasing();
        right();
        cellsOfMemory();
        valuesOfMemory();
        startsOfMemory();
        meaningless();
        marchOrder();
        marchCounts();
        bits();
        repairs();
        leastRepairs();
        boards();
        opens();
        shorts();
        codes();
        gots();
        badWires();
        sames();
        cores();
        least();
        begins();
        allRefused(54, 69);
        end();
    }

    // ---- promises 54 to 58

    private static void signs() {
        test(54, "there are six signs, and no other one", () -> {
            StuckatBench x = RIGHT.built();
            for (char sign : signsBut(SIGNS)) throwsIt(ILLEGAL, () -> x.march(sign));
            is(x.eraseMarch(), 8);
            for (char sign : SIGNS.toCharArray()) is(marching("").march(sign), 1);
            refused(ILLEGAL, RIGHT, y -> y.march('V'));
            refused(ILLEGAL, NEW, y -> y.march(' '));
        });
        test(54, "the 24th is taken, the 25th is refused", () -> {
            for (char sign : SIGNS.toCharArray()) {
                StuckatBench x = new StuckatBench();
                for (int k = 1; k <= 24; k++) is(x.march(sign), k);
                throwsIt(STATE, () -> x.march(sign));
                is(x.eraseMarch(), 24);
            }
            refused(STATE, TYPED, x -> x.march('o'));
            refused(STATE, TYPED, x -> x.march('^'));
        });
        test(54, "no such sign comes ahead of 24", () -> refused(ILLEGAL, TYPED, x -> x.march('x')));
    }

    private static void erasing() {
        test(55, "none, or all 24", () -> {
            is(NEW.built().eraseMarch(), 0);
            StuckatBench x = TYPED.built();
            is(x.eraseMarch(), 24);
            is(x.eraseMarch(), 0);
            is(x.isRight(), false);
            is(x.march('^'), 1);
            is(x.isRight(), true);
        });
    }

    private static void right() {
        test(56, "an empty march does not begin with an element", () -> is(NEW.built().isRight(), false));
        test(56, "it begins with an element, which may be all", () -> {
            is(marching("^").isRight(), true);
            is(marching("v").isRight(), true);
            is(marching("0").isRight(), false);
            is(marching("0^0z").isRight(), false);
            is(marching("1v1o").isRight(), false);
            is(marching("z").isRight(), false);
            is(marching("o^").isRight(), false);
        });
        test(56, "with all cells 0 at first, and with all 1", () -> {
            is(marching("^z").isRight(), false);
            is(marching("^o").isRight(), false);
            is(marching("vz").isRight(), false);
            is(marching("vo").isRight(), false);
            is(marching("^0z").isRight(), true);
            is(marching("v1o").isRight(), true);
        });
        test(56, "all it reads, the last sign of 24, too", () -> {
            is(marching("^0^^^^^^^^^^^^^^^^^^^^^z").isRight(), true);
            is(marching("^0^^^^^^^^^^^^^^^^^^^^^o").isRight(), false);
            is(marching("^01010101010101010101010").isRight(), true);
            is(marching("^1o0z1o0z1o0z1o0z1o0z1oz").isRight(), false);
            is(marching("^1o0z1o0z1o0z1o0z1o0z1oo").isRight(), true);
        });
        test(56, "an element without signs does nothing", () -> is(marching("^^0vv^^zvv").isRight(), true));
    }

    private static void cellsOfMemory() {
        test(57, "there are five kinds, and no other one", () -> {
            StuckatBench x = RIGHT.built();
            for (char kind : signsBut("stcia")) throwsIt(ILLEGAL, () -> x.marchFinds(kind, 0, 1, 0, 0));
            for (char kind : "stcia".toCharArray()) is(x.marchFinds(kind, 0, 1, 0, 0) || kind != 's', true);
            refused(ILLEGAL, RIGHT, y -> y.marchFinds('x', 0, 1, 0, 0));
        });
        test(57, "the cell a is 0 to 7", () -> {
            for (char kind : "stcia".toCharArray()) {
                for (int cell : outside(8)) throwsIt(ILLEGAL, () -> RIGHT.built().marchFinds(kind, cell, 1, 0, 0));
            }
            for (int cell : outside(8)) refused(ILLEGAL, RIGHT, x -> x.marchFinds('s', cell, 1, 0, 0));
            is(RIGHT.built().marchFinds('s', 0, 0, 0, 0), true);
            is(RIGHT.built().marchFinds('s', 7, 0, 0, 0), true);
            is(RIGHT.built().marchFinds('a', 7, 0, 0, 0), true);
        });
        test(57, "the cell b is 0 to 7", () -> {
            for (char kind : "cia".toCharArray()) {
                for (int cell : outside(8)) throwsIt(ILLEGAL, () -> RIGHT.built().marchFinds(kind, 0, cell, 0, 0));
            }
            for (int cell : outside(8)) refused(ILLEGAL, RIGHT, x -> x.marchFinds('i', 1, cell, 0, 0));
            is(RIGHT.built().marchFinds('a', 0, 7, 0, 0), true);
            is(RIGHT.built().marchFinds('a', 1, 0, 0, 0), true);
        });
        test(57, "both cells are not the same", () -> {
            for (int k = 0; k < 8; k++) {
                int cell = k;
                for (char kind : "cia".toCharArray()) {
                    throwsIt(ILLEGAL, () -> RIGHT.built().marchFinds(kind, cell, cell, 0, 0));
                }
            }
            refused(ILLEGAL, RIGHT, x -> x.marchFinds('a', 3, 3, 0, 0));
        });
    }

    private static void valuesOfMemory() {
        test(57, "v is 0 or 1", () -> {
            for (char kind : "stci".toCharArray()) {
                for (int value : outside(0, 1)) throwsIt(ILLEGAL, () -> RIGHT.built().marchFinds(kind, 0, 1, value, 0));
                is(answerOf(() -> RIGHT.built().marchFinds(kind, 0, 1, 1, 1)) instanceof Boolean, true);
            }
            for (int value : outside(0, 1)) refused(ILLEGAL, RIGHT, x -> x.marchFinds('t', 0, 1, value, 0));
        });
        test(57, "w is 0 or 1 for c", () -> {
            for (int value : outside(0, 1)) refused(ILLEGAL, RIGHT, x -> x.marchFinds('c', 0, 1, 0, value));
            is(answerOf(() -> RIGHT.built().marchFinds('c', 0, 1, 0, 1)) instanceof Boolean, true);
        });
        test(57, "found if it reads otherwise in both cases, not in one", () -> {
            // A cell that is always 0 is read as 0 first where all are, and as 0 where all are 1.
            is(marching("^0z1o").marchFinds('t', 3, 0, 0, 0), false);
            is(marching("^1o0z").marchFinds('t', 3, 0, 0, 0), true);
            is(marching("^1o0z").marchFinds('t', 3, 0, 1, 0), false);
            is(marching("^0z").marchFinds('s', 3, 0, 1, 0), true);
            is(marching("^0z").marchFinds('s', 3, 0, 0, 0), false);
            is(marching("^0").marchFinds('s', 3, 0, 1, 0), false);
            // The cell 5 becomes 1 twice where it is 0 at first, and turns the cell 0 back; once where it is 1.
            is(marching("^101^o").marchFinds('i', 5, 0, 1, 0), false);
            is(marching("^101^o").marchFinds('i', 0, 5, 1, 0), false);
            is(marching("^010^z").marchFinds('i', 5, 0, 0, 0), false);
            is(marching("^01^o").marchFinds('i', 5, 0, 1, 0), true);
        });
    }

    private static void startsOfMemory() {
        test(57, "all eight cells are 0 at first in one case, and 1 in the other one", () -> {
            for (int k = 0; k < 8; k++) {
                // What does not become 1 is 1 at first in one case; what does not become 0 is 0 in the other.
                is(marching("v1o").marchFinds('t', k, 0, 1, 0), false);
                is(marching("^1o").marchFinds('t', k, 0, 1, 0), false);
                is(marching("^0z").marchFinds('t', k, 0, 0, 0), false);
                is(marching("v0z").marchFinds('t', k, 0, 0, 0), false);
                is(marching("^0^1o").marchFinds('t', k, 0, 1, 0), true);
            }
        });
        test(57, "an element goes through all eight cells, upward or downward", () -> {
            for (int a = 0; a < 8; a++) {
                for (int b = 0; b < 8; b++) {
                    if (a == b) continue;
                    is(marching("^0^z1").marchFinds('c', a, b, 1, 1), a < b);
                    is(marching("^0vz1").marchFinds('c', a, b, 1, 1), a > b);
                    is(marching("^0^z1").marchFinds('i', a, b, 1, 0), a < b);
                    is(marching("^0vz1").marchFinds('i', a, b, 1, 0), a > b);
                    is(marching("^0^z1").marchFinds('a', a, b, 0, 0), true);
                    is(marching("^0z").marchFinds('a', a, b, 0, 0), false);
                }
                is(marching("^0z").marchFinds('s', a, 0, 1, 0), true);
                is(marching("v1o").marchFinds('s', a, 0, 0, 0), true);
            }
        });
    }

    private static void meaningless() {
        test(57, "b is of no meaning for s and t", () -> {
            for (int cell : new int[] {-1, 8, MIN, MAX, 3}) {
                is(RIGHT.built().marchFinds('s', 3, cell, 1, 0), true);
                is(RIGHT.built().marchFinds('t', 3, cell, 1, 0), true);
            }
        });
        test(57, "v is of no meaning for a", () -> {
            for (int value : outside(0, 1)) is(RIGHT.built().marchFinds('a', 3, 4, value, 0), true);
        });
        test(57, "w is of meaning for c alone", () -> {
            for (int value : outside(0, 1)) {
                is(RIGHT.built().marchFinds('s', 3, 4, 1, value), true);
                is(RIGHT.built().marchFinds('t', 3, 4, 1, value), true);
                is(RIGHT.built().marchFinds('i', 3, 4, 1, value), RIGHT.built().marchFinds('i', 3, 4, 1, 0));
                is(RIGHT.built().marchFinds('a', 3, 4, 1, value), true);
            }
        });
    }

    private static void marchOrder() {
        test(57, "refused if the march is not right", () -> {
            refused(UNSUPPORTED, NEW, x -> x.marchFinds('s', 0, 0, 0, 0));
            refused(UNSUPPORTED, WRONG, x -> x.marchFinds('s', 0, 0, 0, 0));
            refused(UNSUPPORTED, () -> marching("0z"), x -> x.marchFinds('a', 0, 1, 0, 0));
        });
        test(57, "no such kind, cell or value comes ahead of a march that is not right", () -> {
            refused(ILLEGAL, WRONG, x -> x.marchFinds('q', 0, 1, 0, 0));
            refused(ILLEGAL, WRONG, x -> x.marchFinds('s', 8, 1, 0, 0));
            refused(ILLEGAL, WRONG, x -> x.marchFinds('i', 0, 8, 0, 0));
            refused(ILLEGAL, WRONG, x -> x.marchFinds('s', 0, 1, 2, 0));
            refused(ILLEGAL, WRONG, x -> x.marchFinds('c', 0, 1, 0, 2));
            refused(ILLEGAL, WRONG, x -> x.marchFinds('a', 1, 1, 0, 0));
            refused(ILLEGAL, NEW, x -> x.marchFinds('s', -1, 1, 0, 0));
        });
    }

    private static void marchCounts() {
        test(58, "there are five kinds, and no other one", () -> {
            StuckatBench x = RIGHT.built();
            for (char kind : signsBut("stcia")) throwsIt(ILLEGAL, () -> x.marchCount(kind));
            refused(ILLEGAL, RIGHT, y -> y.marchCount('x'));
        });
        test(58, "refused if the march is not right", () -> {
            for (char kind : "stcia".toCharArray()) {
                throwsIt(UNSUPPORTED, () -> NEW.built().marchCount(kind));
                throwsIt(UNSUPPORTED, () -> WRONG.built().marchCount(kind));
            }
            refused(UNSUPPORTED, WRONG, x -> x.marchCount('c'));
        });
        test(58, "no such kind comes ahead of a march that is not right", () -> {
            refused(ILLEGAL, WRONG, x -> x.marchCount('x'));
            refused(ILLEGAL, NEW, x -> x.marchCount('^'));
        });
        test(58, "those of all cells and values of meaning that are found one by one", () -> {
            for (String signs : new String[] {"^0^z1", "v0vz1", "^1^o0", "v1^o0z1", "^0^z1vo0", "^0z1o", "^1vo0^z1"}) {
                StuckatBench x = marching(signs);
                for (char kind : "stcia".toCharArray()) is(x.marchCount(kind), countOneByOne(signs, kind));
            }
        });
        test(58, "none, or all of all cells and values of meaning", () -> {
            int[] all = {16, 16, 224, 112, 56};
            for (int k = 0; k < 5; k++) {
                is(marching("^").marchCount("stcia".charAt(k)), 0);
                is(marching("^0^z1^o0vz1vo0vz").marchCount("stcia".charAt(k)), all[k]);
            }
        });
    }

    private static int countOneByOne(String signs, char kind) {
        int many = 0;
        for (int k = 0; k < 8 * 8 * 2 * 2; k++) {
            int a = k & 7;
            int b = k >> 3 & 7;
            int v = k >> 6 & 1;
            int w = k >> 7;
            boolean isOfMeaning = (kind != 's' && kind != 't' ? a != b : b == 0) && (kind != 'a' || v == 0) && (kind == 'c' || w == 0);
            if (isOfMeaning && marching(signs).marchFinds(kind, a, b, v, w)) many++;
        }
        return many;
    }

    // ---- promises 59 and 60

    private static void bits() {
        test(59, "the row is 0 to 7", () -> {
            is(BITS.built().bad(0, 0, true), 4);
            is(BITS.built().bad(7, 0, true), 4);
            for (int row : outside(8)) {
                refused(INDEX, BITS, x -> x.bad(row, 1, true));
                refused(INDEX, BITS, x -> x.bad(row, 1, false));
            }
        });
        test(59, "the column is 0 to 7", () -> {
            is(BITS.built().bad(0, 7, true), 4);
            is(BITS.built().bad(3, 0, true), 4);
            for (int column : outside(8)) {
                refused(INDEX, BITS, x -> x.bad(0, column, true));
                refused(INDEX, BITS, x -> x.bad(0, column, false));
            }
        });
        test(59, "none is bad, or all 64", () -> {
            is(NEW.built().bad(0, 0, false), 0);
            StuckatBench x = new StuckatBench();
            for (int bit = 0; bit < 64; bit++) is(x.bad(bit / 8, bit % 8, true), bit + 1);
            for (int bit = 0; bit < 64; bit++) is(x.bad(bit / 8, bit % 8, true), 64);
            for (int bit = 63; bit >= 0; bit--) is(x.bad(bit % 8, bit / 8, false), bit);
            is(x.repair(0, 0), 0);
        });
        test(59, "told twice it counts once, and told good again it is", () -> {
            is(BITS.built().bad(0, 1, true), 3);
            is(BITS.built().bad(1, 0, false), 3);
            StuckatBench x = BITS.built();
            is(x.bad(0, 1, false), 2);
            is(x.bad(0, 1, false), 2);
        });
    }

    private static void repairs() {
        test(60, "0 to 8 spare rows", () -> {
            is(BITS.built().repair(8, 1), 1);
            is(BITS.built().repair(0, 2), 0);
            for (int rows : outside(0, 8)) refused(ILLEGAL, BITS, x -> x.repair(rows, 2));
        });
        test(60, "0 to 8 spare columns", () -> {
            is(BITS.built().repair(0, 8), 0);
            is(BITS.built().repair(2, 0), 9);
            for (int columns : outside(0, 8)) refused(ILLEGAL, BITS, x -> x.repair(2, columns));
        });
        test(60, "refused if there is none", () -> {
            refused(NO_ELEMENT, BITS, x -> x.repair(0, 0));
            refused(NO_ELEMENT, BITS, x -> x.repair(1, 0));
            refused(NO_ELEMENT, BITS, x -> x.repair(0, 1));
            refused(NO_ELEMENT, ALL_BAD, x -> x.repair(7, 7));
        });
        test(60, "a number out of range comes ahead of none", () -> {
            refused(ILLEGAL, BITS, x -> x.repair(-1, 0));
            refused(ILLEGAL, ALL_BAD, x -> x.repair(0, 9));
            refused(ILLEGAL, ALL_BAD, x -> x.repair(9, 0));
        });
        test(60, "none bad needs none", () -> {
            is(NEW.built().repair(0, 0), 0);
            is(NEW.built().repair(8, 8), 0);
        });
        test(60, "all bad needs all rows or all columns", () -> {
            is(ALL_BAD.built().repair(8, 0), 255);
            is(ALL_BAD.built().repair(8, 7), 255);
            is(ALL_BAD.built().repair(0, 8), 0);
            is(ALL_BAD.built().repair(7, 8), 0);
            is(ALL_BAD.built().repair(8, 8), 0);
        });
    }

    private static void leastRepairs() {
        test(60, "the fewest of both together, though others have a lesser sum of rows", () -> {
            // Two bits of the row 7: one row, or two columns.
            StuckatBench x = new StuckatBench();
            x.bad(7, 0, true);
            x.bad(7, 6, true);
            is(x.repair(1, 2), 128);
            is(x.repair(0, 2), 0);
        });
        test(60, "the fewest may be as many as 14, if no fewer ones are spared", () -> {
            // All are bad but the last one of the first row: seven rows, and seven columns for that row.
            StuckatBench x = new StuckatBench();
            for (int k = 0; k < 64; k++) x.bad(k / 8, k % 8, k != 7);
            is(x.repair(7, 7), 254);
            throwsIt(NO_ELEMENT, () -> x.repair(7, 6));
            throwsIt(NO_ELEMENT, () -> x.repair(6, 7));
            is(x.repair(7, 8), 0);
            is(x.repair(8, 6), 255);
            // Three rows that need six columns, and five rows that need all of them.
            StuckatBench y = new StuckatBench();
            for (int k = 0; k < 64; k++) y.bad(k / 8, k % 8, k / 8 > 2 || k % 8 < 6);
            is(y.repair(5, 6), 8 + 16 + 32 + 64 + 128);
            throwsIt(NO_ELEMENT, () -> y.repair(5, 5));
        });
        test(60, "of several, the least sum of its rows", () -> {
            StuckatBench x = new StuckatBench();
            x.bad(2, 3, true);
            x.bad(5, 6, true);
            is(x.repair(2, 2), 0);
            is(x.repair(2, 1), 4);
            is(x.repair(1, 1), 4);
            is(x.repair(2, 0), 36);
            // The columns may be as high as they are.
            StuckatBench y = new StuckatBench();
            y.bad(0, 7, true);
            y.bad(1, 0, true);
            is(y.repair(1, 1), 1);
        });
    }

    // ---- promises 61 to 66

    private static void boards() {
        test(61, "1 to 12 wires", () -> {
            is(NEW.built().board(1, 'a'), 0);
            is(NEW.built().board(12, 'o'), 0);
            for (int many : outside(1, 12)) refused(ILLEGAL, WIRES, x -> x.board(many, 'a'));
            throwsIt(ILLEGAL, () -> NEW.built().board(0, 'a'));
            throwsIt(ILLEGAL, () -> NEW.built().board(13, 'o'));
        });
        test(61, "there are two kinds, and no other one", () -> {
            StuckatBench x = WIRES.built();
            for (char kind : signsBut("ao")) throwsIt(ILLEGAL, () -> x.board(3, kind));
            refused(ILLEGAL, WIRES, y -> y.board(3, 'x'));
            refused(ILLEGAL, NEW, y -> y.board(3, 'A'));
        });
        test(61, "returns how many there were, 0 at first", () -> {
            StuckatBench x = new StuckatBench();
            is(x.board(12, 'a'), 0);
            is(x.board(1, 'o'), 12);
            is(x.board(1, 'o'), 1);
        });
        test(61, "none of which is open or shorted then", () -> {
            StuckatBench x = WIRES.built();
            is(x.badWires('t') != 0, true);
            is(x.board(5, 'o'), 5);
            is(x.badWires('t'), 0);
            is(x.shortWires(0, 1), 2);
            is(x.openWire(2, 1), true);
            // Wires that there were not before are none of theirs.
            x.board(1, 'o');
            x.board(12, 'o');
            is(x.badWires('t'), 0);
        });
        test(61, "the kind is that of the whole board, and of the last one set", () -> {
            StuckatBench x = WIRES.built();
            is(x.got(0, 'c'), 5);
            x.board(5, 'a');
            x.shortWires(0, 3);
            is(x.got(0, 'c'), 0);
        });
    }

    private static void opens() {
        test(62, "refused if there is no such wire", () -> {
            is(WIRES.built().openWire(4, 0), true);
            for (int wire : outside(5)) refused(INDEX, WIRES, x -> x.openWire(wire, 0));
            refused(INDEX, NEW, x -> x.openWire(0, 0));
        });
        test(62, "the value is 0 or 1", () -> {
            is(WIRES.built().openWire(0, 1), true);
            for (int value : outside(0, 1)) {
                refused(ILLEGAL, WIRES, x -> x.openWire(0, value));
                refused(ILLEGAL, WIRES, x -> x.openWire(2, value));
            }
        });
        test(62, "no such wire comes ahead of no such value", () -> {
            refused(INDEX, WIRES, x -> x.openWire(5, 2));
            refused(INDEX, NEW, x -> x.openWire(0, -1));
        });
        test(62, "returns whether it was not open", () -> {
            StuckatBench x = WIRES.built();
            is(x.openWire(2, 0), false);
            is(x.openWire(2, 1), false);
            is(x.openWire(4, 1), true);
            is(x.openWire(4, 1), false);
        });
    }

    private static void shorts() {
        test(63, "refused if there is no such wire", () -> {
            for (int wire : outside(5)) refused(INDEX, WIRES, x -> x.shortWires(wire, 0));
            refused(INDEX, NEW, x -> x.shortWires(0, 1));
        });
        test(63, "refused if there is no such other wire", () -> {
            is(WIRES.built().shortWires(0, 4), 3);
            for (int wire : outside(5)) refused(INDEX, WIRES, x -> x.shortWires(0, wire));
        });
        test(63, "refused if both are the same", () -> {
            for (int k = 0; k < 5; k++) {
                int wire = k;
                refused(ILLEGAL, WIRES, x -> x.shortWires(wire, wire));
            }
        });
        test(63, "no such wire comes ahead of both being the same", () -> {
            refused(INDEX, WIRES, x -> x.shortWires(5, 5));
            refused(INDEX, NEW, x -> x.shortWires(0, 0));
        });
        test(63, "how many hang together with it, open ones too", () -> {
            StuckatBench x = WIRES.built();
            is(x.shortWires(2, 3), 3);
            is(x.shortWires(4, 2), 4);
            is(x.shortWires(4, 2), 4);
            is(x.shortWires(1, 0), 5);
        });
        test(63, "all 12 in a row, whichever comes first", () -> {
            StuckatBench x = new StuckatBench();
            x.board(12, 'a');
            for (int k = 0; k < 11; k++) is(x.shortWires(k, k + 1), k + 2);
            StuckatBench last = new StuckatBench();
            last.board(12, 'o');
            for (int k = 0; k < 10; k++) last.shortWires(k, k + 1);
            is(last.shortWires(11, 10), 12);
            is(last.got(11, 'c'), 15);
            is(last.got(0, 'c'), 15);
            StuckatBench y = new StuckatBench();
            y.board(12, 'a');
            int[] order = {0, 2, 4, 6, 8, 10};
            for (int k : order) is(y.shortWires(k, k + 1), 2);
            int[] between = {9, 7, 5, 3, 1};
            for (int k = 0; k < 5; k++) is(y.shortWires(between[k], between[k] + 1), 4 + 2 * k);
        });
    }

    private static void codes() {
        test(64, "as many bits as the number of wires plus 1 has", () -> {
            int[] bits = {0, 2, 2, 3, 3, 3, 3, 4, 4, 4, 4, 4, 4};
            for (int many = 1; many <= 12; many++) {
                StuckatBench x = new StuckatBench();
                x.board(many, 'a');
                int all = (1 << bits[many]) - 1;
                is(x.got(0, 'c'), 1);
                is(x.got(many - 1, 'c'), many);
                is(x.got(0, 't'), 1 | (all - 1) << bits[many]);
                is(x.got(many - 1, 't'), many | (all - many) << bits[many]);
                x.openWire(0, 1);
                is(x.got(0, 'c'), all);
                is(x.got(0, 't'), (1 << 2 * bits[many]) - 1);
                x.openWire(0, 0);
                is(x.got(0, 'c'), 0);
                is(x.got(0, 't'), 0);
            }
        });
    }

    private static void gots() {
        test(64, "refused if there is no such wire", () -> {
            is(WIRES.built().got(4, 'c'), 5);
            for (int wire : outside(5)) refused(INDEX, WIRES, x -> x.got(wire, 'c'));
            refused(INDEX, NEW, x -> x.got(0, 'c'));
        });
        test(64, "there are two codes, and no other one", () -> {
            StuckatBench x = WIRES.built();
            for (char code : signsBut("ct")) throwsIt(ILLEGAL, () -> x.got(0, code));
            refused(ILLEGAL, WIRES, y -> y.got(0, 'x'));
            refused(ILLEGAL, WIRES, y -> y.got(2, 'x'));
        });
        test(64, "no such wire comes ahead of no such code", () -> {
            refused(INDEX, WIRES, x -> x.got(5, 'x'));
            refused(INDEX, NEW, x -> x.got(0, 'x'));
        });
        test(64, "an open one is not among them, and joins none", () -> {
            StuckatBench x = new StuckatBench();
            x.board(3, 'o');
            x.shortWires(0, 1);
            x.shortWires(1, 2);
            is("" + x.got(0, 'c') + x.got(1, 'c') + x.got(2, 'c'), "333");
            x.openWire(1, 0);
            is("" + x.got(0, 'c') + x.got(1, 'c') + x.got(2, 'c'), "103");
            x.shortWires(0, 2);
            is("" + x.got(0, 'c') + x.got(1, 'c') + x.got(2, 'c'), "303");
            x.openWire(0, 0);
            is("" + x.got(0, 'c') + x.got(1, 'c') + x.got(2, 'c'), "003");
        });
    }

    private static void badWires() {
        test(65, "there are two codes, and no other one", () -> {
            StuckatBench x = WIRES.built();
            for (char code : signsBut("ct")) throwsIt(ILLEGAL, () -> x.badWires(code));
            refused(ILLEGAL, WIRES, y -> y.badWires('x'));
            refused(ILLEGAL, NEW, y -> y.badWires('x'));
        });
        test(65, "none, as there are none or nothing is wrong", () -> {
            is(NEW.built().badWires('c'), 0);
            is(NEW.built().badWires('t'), 0);
            StuckatBench x = new StuckatBench();
            x.board(12, 'a');
            is(x.badWires('c'), 0);
            is(x.badWires('t'), 0);
        });
        test(65, "all 12 of them", () -> {
            StuckatBench x = new StuckatBench();
            x.board(12, 'a');
            for (int k = 0; k < 12; k++) x.openWire(k, 0);
            is(x.badWires('c'), 4095);
            is(x.badWires('t'), 4095);
        });
        test(65, "what is sent and got alike is not bad, though shorted or open", () -> {
            StuckatBench x = new StuckatBench();
            x.board(3, 'o');
            x.shortWires(0, 2);
            is(x.badWires('c'), 1);
            x.openWire(1, 1);
            is(x.badWires('c'), 1 + 2);
            StuckatBench y = new StuckatBench();
            y.board(2, 'a');
            y.openWire(1, 1);
            is(y.badWires('c'), 2);
            StuckatBench z = new StuckatBench();
            z.board(6, 'a');
            z.shortWires(0, 2);
            // 1 and 3 got as 1: the wire 0 is as it was sent, until it is sent turned over.
            is(z.badWires('c'), 4);
            is(z.badWires('t'), 1 + 4);
        });
    }

    private static void sames() {
        test(66, "refused if there is no such wire", () -> {
            is(WIRES.built().sameAs(4, 'c'), 3);
            for (int wire : outside(5)) refused(INDEX, WIRES, x -> x.sameAs(wire, 'c'));
            refused(INDEX, NEW, x -> x.sameAs(0, 'c'));
        });
        test(66, "there are two codes, and no other one", () -> {
            StuckatBench x = WIRES.built();
            for (char code : signsBut("ct")) throwsIt(ILLEGAL, () -> x.sameAs(0, code));
            refused(ILLEGAL, WIRES, y -> y.sameAs(0, 'x'));
        });
        test(66, "no such wire comes ahead of no such code", () -> {
            refused(INDEX, WIRES, x -> x.sameAs(5, 'x'));
            refused(INDEX, NEW, x -> x.sameAs(0, 'x'));
        });
        test(66, "this one included: one alone, or all 12", () -> {
            StuckatBench x = new StuckatBench();
            x.board(12, 'a');
            for (int k = 0; k < 12; k++) is(x.sameAs(k, 't'), 1);
            for (int k = 0; k < 12; k++) x.openWire(k, 1);
            for (int k = 0; k < 12; k++) is(x.sameAs(k, 't'), 12);
            x.openWire(5, 0);
            is(x.sameAs(5, 'c'), 1);
            is(x.sameAs(0, 'c'), 11);
            StuckatBench one = new StuckatBench();
            one.board(1, 'o');
            is(one.sameAs(0, 'c'), 1);
        });
    }

    // ---- promises 67 to 69

    private static void cores() {
        test(67, "the time is 1 to 999", () -> {
            is(CORES.built().core(1, 5, 5), 3);
            is(CORES.built().core(999, 5, 5), 3);
            for (int time : outside(1, 999)) refused(ILLEGAL, CORES, x -> x.core(time, 5, 5));
        });
        test(67, "the width is 1 to 64", () -> {
            is(CORES.built().core(5, 1, 5), 3);
            is(CORES.built().core(5, 64, 5), 3);
            for (int width : outside(1, 64)) refused(ILLEGAL, CORES, x -> x.core(5, width, 5));
        });
        test(67, "the power is 0 to 999", () -> {
            is(CORES.built().core(5, 5, 0), 3);
            is(CORES.built().core(5, 5, 999), 3);
            for (int power : outside(0, 999)) refused(ILLEGAL, CORES, x -> x.core(5, 5, power));
        });
        test(67, "the 6th is taken, the 7th is refused", () -> {
            StuckatBench x = new StuckatBench();
            for (int k = 0; k < 6; k++) is(x.core(1, 1, 0), k);
            throwsIt(STATE, () -> x.core(1, 1, 0));
            is(x.least(1, 0), 6);
            refused(STATE, SIX, y -> y.core(5, 5, 5));
        });
        test(67, "a number out of range comes ahead of 6", () -> {
            refused(ILLEGAL, SIX, x -> x.core(0, 5, 5));
            refused(ILLEGAL, SIX, x -> x.core(5, 65, 5));
            refused(ILLEGAL, SIX, x -> x.core(5, 5, -1));
        });
    }

    private static void least() {
        test(68, "refused if there are none", () -> {
            refused(NO_ELEMENT, NEW, x -> x.least(64, 999));
            throwsIt(NO_ELEMENT, () -> NEW.built().least(MAX, MAX));
        });
        test(68, "refused if one needs more width", () -> {
            is(CORES.built().least(3, 99), 15);
            refused(NO_ELEMENT, CORES, x -> x.least(2, 99));
            refused(NO_ELEMENT, CORES, x -> x.least(0, 99));
            refused(NO_ELEMENT, CORES, x -> x.least(-1, 99));
            refused(NO_ELEMENT, CORES, x -> x.least(MIN, 99));
        });
        test(68, "refused if one needs more power", () -> {
            is(CORES.built().least(99, 3), 15);
            refused(NO_ELEMENT, CORES, x -> x.least(99, 2));
            refused(NO_ELEMENT, CORES, x -> x.least(99, 0));
            refused(NO_ELEMENT, CORES, x -> x.least(99, MIN));
            StuckatBench x = new StuckatBench();
            x.core(3, 1, 0);
            is(x.least(1, 0), 3);
            throwsIt(NO_ELEMENT, () -> x.least(1, -1));
        });
        test(68, "the last one alone can need more", () -> {
            is(SIX.built().least(64, 999), 1005);
            throwsIt(NO_ELEMENT, () -> SIX.built().least(63, 999));
            throwsIt(NO_ELEMENT, () -> SIX.built().least(64, 998));
        });
        test(68, "as wide and as strong as can be, all begin at once", () -> {
            is(CORES.built().least(MAX, MAX), 6);
            is(CORES.built().least(7, 9), 6);
            is(CORES.built().least(6, 9), 9);
            is(CORES.built().least(7, 8), 9);
        });
        test(68, "six of the longest one behind the other", () -> {
            StuckatBench x = new StuckatBench();
            for (int k = 0; k < 6; k++) x.core(999, 64, 999);
            is(x.least(64, 999), 6 * 999);
            is(x.least(127, 1998), 6 * 999);
            is(x.least(128, 1998), 3 * 999);
            is(x.least(128, 1997), 6 * 999);
            is(x.least(383, MAX), 2 * 999);
            is(x.least(384, 6 * 999), 999);
        });
    }

    private static void begins() {
        test(69, "refused if there is no such core", () -> {
            is(CORES.built().begins(3, 3, 2), 9);
            for (int core : outside(3)) refused(INDEX, CORES, x -> x.begins(9, 9, core));
            refused(INDEX, NEW, x -> x.begins(9, 9, 0));
        });
        test(69, "refused if one needs more, another one than is asked for, too", () -> {
            refused(NO_ELEMENT, CORES, x -> x.begins(2, 9, 0));
            refused(NO_ELEMENT, CORES, x -> x.begins(2, 9, 1));
            refused(NO_ELEMENT, CORES, x -> x.begins(9, 2, 0));
            refused(NO_ELEMENT, CORES, x -> x.begins(MIN, MIN, 2));
        });
        test(69, "no such core comes ahead of one that needs more", () -> {
            refused(INDEX, CORES, x -> x.begins(1, 1, 3));
            refused(INDEX, CORES, x -> x.begins(0, 0, -1));
            throwsIt(INDEX, () -> NEW.built().begins(0, 0, 0));
        });
        test(69, "of several orders with the least end the first one, compared by numbers", () -> {
            // Two alike: 0 comes first. Three of which two fit: 0 and 1 come first.
            StuckatBench x = new StuckatBench();
            x.core(4, 2, 0);
            x.core(4, 2, 0);
            is(x.begins(2, 0, 0) + "" + x.begins(2, 0, 1), "04");
            x.core(4, 2, 0);
            is(x.begins(4, 0, 0) + "" + x.begins(4, 0, 1) + x.begins(4, 0, 2), "004");
            StuckatBench six = new StuckatBench();
            for (int k = 0; k < 6; k++) six.core(999, 64, 999);
            for (int k = 0; k < 6; k++) is(six.begins(64, 999, k), 999 * k);
        });
        test(69, "as soon as it is wide enough, which is as the other one ends", () -> {
            StuckatBench x = new StuckatBench();
            x.core(1, 3, 0);
            x.core(1, 2, 0);
            is(x.begins(4, 0, 1), 1);
            is(x.begins(5, 0, 1), 0);
        });
        test(69, "as soon as the power is enough, which is as the other one ends", () -> {
            StuckatBench x = new StuckatBench();
            x.core(1, 1, 3);
            x.core(1, 1, 2);
            is(x.begins(9, 4, 1), 1);
            is(x.begins(9, 5, 1), 0);
        });
    }
}
