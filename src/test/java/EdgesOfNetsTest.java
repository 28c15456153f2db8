/** The sentences that name an edge, an empty, a full or a refused case: promises 1 to 8 and 12 to 18. */
public final class EdgesOfNetsTest extends Checks {
    private static final Scene NEW = StuckatBench::new;
    private static final Scene OPENED = () -> open("i i f a0,1 v3 d2=4 !4");
    private static final Scene CLOSED = () -> net("i i f a0,1 v3 d2=4 !4", "110", "0?1");
    private static final Scene TWELVE = () -> open("i i f i i f i i i i f i d2=0 d5=0 d10=0 !0");
    private static final Scene TWELVE_CLOSED = () -> closed(TWELVE.built());
    private static final Scene FORTY = () -> rowOf(40);
    private static final Scene FORTY_CLOSED = () -> closed(rowOf(40));
    private static final int LINES = 5;

    public static void main(String[] args) {
        newObject();
        inputs();
        cells();
        gates();
        gateOrder();
        data();
        outputs();
        closing();
        mostFaults();
        testPoints();
        faultCounts();
        faultNumbers();
        alikes();
        bridges();
        bridgeOrder();
        slows();
        allRefused(1, 8);
        allRefused(12, 18);
        end();
    }

    private static void newObject() {
        test(1, "without a net: no line, source or cell, and it is not closed", () -> {
            throwsIt(INDEX, () -> NEW.built().output(0));
            throwsIt(INDEX, () -> NEW.built().weight(0));
            throwsIt(ILLEGAL, () -> NEW.built().pattern(1, 0));
            throwsIt(ILLEGAL, () -> NEW.built().breakChain(0, 0));
            throwsIt(UNSUPPORTED, () -> NEW.built().pattern(0, 0));
            throwsIt(UNSUPPORTED, () -> NEW.built().close());
            is(NEW.built().input(), 0);
            is(NEW.built().cell(), 0);
        });
        test(1, "without patterns", () -> {
            is(NEW.built().patterns(), 0);
            is(NEW.built().cycles(), 0);
            throwsIt(INDEX, () -> NEW.built().known(0, false));
            throwsIt(NO_ELEMENT, () -> NEW.built().orderAt(0));
        });
        test(1, "without faults and classes", () -> {
            is(NEW.built().faults(), 0);
            is(NEW.built().classes(), 0);
            throwsIt(INDEX, () -> NEW.built().lineOf(0));
        });
        test(1, "without all else: faults in the chip, a broken chain, tallies", () -> {
            is(NEW.built().mend(), 0);
            is(NEW.built().suspects(), 0);
            StuckatBench x = net(CHAIN, "110");
            is(x.breakChain(0, 1), -1);
            is(x.fails(0), 0L);
            for (int f = 0; f < x.faults(); f++) is(x.tally(f), 0);
        });
        test(1, "without all else: a march, bad bits, a board, cores", () -> {
            is(NEW.built().eraseMarch(), 0);
            is(NEW.built().march('^'), 1);
            is(NEW.built().repair(0, 0), 0);
            is(NEW.built().bad(7, 7, false), 0);
            is(NEW.built().board(12, 'o'), 0);
            throwsIt(INDEX, () -> NEW.built().begins(MAX, MAX, 0));
            is(NEW.built().core(1, 1, 1), 0);
        });
        test(1, "the ring has 4 bits", () -> {
            // The fifth observed line, of a ring of 4 bits, turns the bit 0.
            is(net("i i i i i !0 !1 !2 !3 !4", "00001").signature(-1), 1);
            is(net("i i i i i !0 !1 !2 !3 !4", "00010").signature(-1), 8);
        });
        test(1, "the taps are 12", () -> {
            // 1, 2, 4, and then the bits 2 and 3 each bring in a 1: 9, 3, and 6 without.
            is(net("i !0", "1", "0", "0").signature(-1), 4);
            is(net("i !0", "1", "0", "0", "0").signature(-1), 9);
            is(net("i !0", "1", "0", "0", "0", "0").signature(-1), 3);
            is(net("i !0", "1", "0", "0", "0", "0", "0").signature(-1), 6);
        });
    }

    private static StuckatBench sources(int many, boolean areCells) {
        StuckatBench x = new StuckatBench();
        for (int k = 0; k < many; k++) is(areCells ? x.cell() : x.input(), k);
        return x;
    }

    private static void inputs() {
        test(2, "the 12th source is taken, the 13th is refused", () -> {
            is(sources(11, false).input(), 11);
            is(sources(11, true).input(), 11);
            refused(STATE, () -> sources(12, false), x -> x.input());
            refused(STATE, () -> sources(12, true), x -> x.input());
            refused(STATE, TWELVE, x -> x.input());
        });
        test(2, "the 40th line is taken, the 41st is refused", () -> {
            is(rowOf(39).input(), 39);
            refused(STATE, FORTY, x -> x.input());
            refused(STATE, () -> {
                StuckatBench x = rowOf(39);
                x.input();
                return x;
            }, x -> x.input());
        });
        test(2, "gates are no sources", () -> {
            StuckatBench x = TWELVE.built();
            for (int k = 12; k < 40; k++) is(x.gate('v', k - 1, 0), k);
            throwsIt(STATE, () -> x.input());
            throwsIt(STATE, () -> x.gate('v', 0, 0));
        });
        test(2, "refused as the net is closed", () -> refused(UNSUPPORTED, CLOSED, x -> x.input()));
        test(2, "closed comes ahead of 12 sources", () -> refused(UNSUPPORTED, TWELVE_CLOSED, x -> x.input()));
        test(2, "closed comes ahead of 40 lines", () -> refused(UNSUPPORTED, FORTY_CLOSED, x -> x.input()));
    }

    private static void cells() {
        test(3, "the 12th source is taken, the 13th is refused", () -> {
            is(sources(11, true).cell(), 11);
            is(sources(11, false).cell(), 11);
            refused(STATE, () -> sources(12, true), x -> x.cell());
            refused(STATE, () -> sources(12, false), x -> x.cell());
            refused(STATE, TWELVE, x -> x.cell());
        });
        test(3, "the 40th line is taken, the 41st is refused", () -> {
            is(rowOf(39).cell(), 39);
            refused(STATE, FORTY, x -> x.cell());
        });
        test(3, "a cell has no data yet", () -> {
            is(open("i f").data(1, 0), -1);
            throwsIt(UNSUPPORTED, () -> open("i f !0").close());
        });
        test(3, "refused as the net is closed", () -> refused(UNSUPPORTED, CLOSED, x -> x.cell()));
        test(3, "closed comes ahead of 12 sources", () -> refused(UNSUPPORTED, TWELVE_CLOSED, x -> x.cell()));
        test(3, "closed comes ahead of 40 lines", () -> refused(UNSUPPORTED, FORTY_CLOSED, x -> x.cell()));
    }

    private static void gates() {
        test(4, "there are seven kinds, and no other one", () -> {
            StuckatBench x = OPENED.built();
            for (char kind : signsBut("aonrxbv")) throwsIt(ILLEGAL, () -> x.gate(kind, 0, 0));
            for (char kind : "aonrxbv".toCharArray()) is(OPENED.built().gate(kind, 0, 0), LINES);
            refused(ILLEGAL, OPENED, y -> y.gate('i', 0, 0));
            refused(ILLEGAL, OPENED, y -> y.gate('f', 0, 0));
        });
        test(4, "the first line is one of those that there are", () -> {
            for (char kind : "aonrxbv".toCharArray()) {
                is(OPENED.built().gate(kind, LINES - 1, 0), LINES);
                for (int line : outside(LINES)) throwsIt(INDEX, () -> OPENED.built().gate(kind, line, 0));
            }
            for (int line : outside(LINES)) refused(INDEX, OPENED, x -> x.gate('n', line, 0));
            refused(INDEX, NEW, x -> x.gate('v', 0, 0));
        });
        test(4, "so is the second one, of two", () -> {
            for (char kind : "aonrx".toCharArray()) {
                is(OPENED.built().gate(kind, 0, LINES - 1), LINES);
                for (int line : outside(LINES)) throwsIt(INDEX, () -> OPENED.built().gate(kind, 0, line));
            }
            for (int line : outside(LINES)) refused(INDEX, OPENED, x -> x.gate('x', 0, line));
        });
        test(4, "the second one is of no meaning for b and v", () -> {
            for (int line : outside(LINES)) {
                is(OPENED.built().gate('b', 0, line), LINES);
                is(OPENED.built().gate('v', 0, line), LINES);
            }
            // It is no place to which a line goes.
            is(closed(open("i i b0,1 v0,1 !2 !3")).faults(), 12);
            is(closed(open("i i b0,1 v0,1 !2 !3")).weight(3), 2);
        });
        test(4, "a gate is of lower numbers alone", () -> {
            throwsIt(INDEX, () -> open("i").gate('v', 1, 0));
            throwsIt(INDEX, () -> open("i").gate('a', 0, 1));
        });
        test(4, "refused as the net is closed", () -> {
            for (char kind : "aonrxbv".toCharArray()) throwsIt(UNSUPPORTED, () -> CLOSED.built().gate(kind, 0, 1));
            refused(UNSUPPORTED, CLOSED, x -> x.gate('a', 0, 1));
        });
        test(4, "the 40th line is taken, the 41st is refused", () -> {
            for (char kind : "aonrxbv".toCharArray()) {
                is(rowOf(39).gate(kind, 38, 38), 39);
                throwsIt(STATE, () -> rowOf(40).gate(kind, 39, 39));
            }
            refused(STATE, FORTY, x -> x.gate('a', 0, 39));
        });
        test(4, "what a gate gives where something is not known, each pin by itself", () -> {
            StuckatBench x = net("i i x0,0 n0,0 a0,1 o0,1 n0,1 r0,1 b0 v0 !2", "??", "?0", "?1");
            String[] due = {"22222222", "22021222", "22212022"};
            for (int p = 0; p < 3; p++) {
                for (int k = 0; k < 8; k++) is(x.value(p, k + 2), due[p].charAt(k) - '0');
            }
        });
    }

    private static void gateOrder() {
        test(4, "no such kind comes ahead of no such line", () -> refused(ILLEGAL, OPENED, x -> x.gate('q', 9, 9)));
        test(4, "no such kind comes ahead of a closed net", () -> refused(ILLEGAL, CLOSED, x -> x.gate('q', 0, 0)));
        test(4, "no such kind comes ahead of 40 lines", () -> refused(ILLEGAL, FORTY, x -> x.gate('q', 0, 0)));
        test(4, "no such line comes ahead of a closed net", () -> {
            refused(INDEX, CLOSED, x -> x.gate('a', LINES, 0));
            refused(INDEX, CLOSED, x -> x.gate('a', 0, LINES));
            throwsIt(INDEX, () -> CLOSED.built().gate('b', -1, 0));
        });
        test(4, "no such line comes ahead of 40 lines", () -> {
            refused(INDEX, FORTY, x -> x.gate('a', 40, 0));
            refused(INDEX, FORTY, x -> x.gate('a', 0, -1));
        });
        test(4, "a closed net comes ahead of 40 lines", () -> {
            refused(UNSUPPORTED, FORTY_CLOSED, x -> x.gate('a', 0, 0));
            throwsIt(UNSUPPORTED, () -> FORTY_CLOSED.built().gate('v', 0, 77));
        });
    }

    private static void data() {
        test(5, "returns the line before, or -1", () -> {
            StuckatBench x = open("i f v0");
            is(x.data(1, 0), -1);
            is(x.data(1, 2), 0);
            is(x.data(1, 1), 2);
            is(x.data(1, 1), 1);
        });
        test(5, "a cell takes the first and the last line that there are, and itself", () -> {
            StuckatBench x = open("f f v0");
            is(x.data(0, 0), -1);
            is(x.data(0, 2), 0);
            is(x.data(1, 2), -1);
        });
        test(5, "refused if there is no such cell", () -> {
            for (int line : outside(LINES)) refused(INDEX, OPENED, x -> x.data(line, 0));
            refused(INDEX, NEW, x -> x.data(0, 0));
        });
        test(5, "refused if there is no such line", () -> {
            for (int line : outside(LINES)) refused(INDEX, OPENED, x -> x.data(2, line));
        });
        test(5, "refused as the net is closed", () -> refused(UNSUPPORTED, CLOSED, x -> x.data(2, 0)));
        test(5, "refused if the first one is no cell", () -> {
            refused(UNSUPPORTED, OPENED, x -> x.data(0, 2));
            refused(UNSUPPORTED, OPENED, x -> x.data(3, 2));
            refused(UNSUPPORTED, OPENED, x -> x.data(4, 4));
        });
        test(5, "no such line comes ahead of what is unsupported", () -> {
            refused(INDEX, CLOSED, x -> x.data(2, LINES));
            refused(INDEX, CLOSED, x -> x.data(LINES, 0));
            refused(INDEX, OPENED, x -> x.data(0, -1));
            refused(INDEX, OPENED, x -> x.data(0, LINES));
        });
    }

    private static void outputs() {
        test(6, "returns whether it was none", () -> {
            StuckatBench x = open("i v0");
            is(x.output(0), true);
            is(x.output(0), false);
            is(x.output(1), true);
            is(x.output(1), false);
        });
        test(6, "a cell's data is no output before it is marked", () -> is(open("i f v0 d1=2").output(2), true));
        test(6, "refused if there is no such line", () -> {
            for (int line : outside(LINES)) refused(INDEX, OPENED, x -> x.output(line));
            refused(INDEX, NEW, x -> x.output(0));
        });
        test(6, "refused as the net is closed", () -> {
            refused(UNSUPPORTED, CLOSED, x -> x.output(0));
            refused(UNSUPPORTED, CLOSED, x -> x.output(4));
        });
        test(6, "no such line comes ahead of a closed net", () -> refused(INDEX, CLOSED, x -> x.output(LINES)));
    }

    private static void closing() {
        test(7, "refused without lines", () -> refused(UNSUPPORTED, NEW, x -> x.close()));
        test(7, "refused if nothing is observed", () -> {
            refused(UNSUPPORTED, () -> open("i"), x -> x.close());
            refused(UNSUPPORTED, () -> open("i i a0,1"), x -> x.close());
        });
        test(7, "refused if one cell has no data", () -> {
            refused(UNSUPPORTED, () -> open("f"), x -> x.close());
            refused(UNSUPPORTED, () -> open("f f f d0=1 d2=1 !0"), x -> x.close());
            refused(UNSUPPORTED, () -> open("i f f d1=0 !0"), x -> x.close());
            refused(UNSUPPORTED, () -> open("i f f d2=0 !0"), x -> x.close());
        });
        test(7, "refused if it is closed", () -> refused(UNSUPPORTED, CLOSED, x -> x.close()));
        test(7, "the data of cells is observed, so that no output is needed", () -> {
            is(open("f d0=0").close(), 2);
            is(open("i f d1=0").close(), 4);
        });
        test(7, "one output is enough", () -> {
            is(open("i !0").close(), 2);
            is(open("i i i !2").close(), 6);
        });
        test(7, "it may be closed behind a refusal", () -> {
            StuckatBench x = open("f");
            throwsIt(UNSUPPORTED, () -> x.close());
            x.data(0, 0);
            is(x.close(), 2);
        });
        test(7, "lines, data and outputs stay as it is closed", () -> {
            StuckatBench x = net("i f v0 d1=2 !1", "1?");
            throwsIt(UNSUPPORTED, () -> x.input());
            throwsIt(UNSUPPORTED, () -> x.data(1, 0));
            throwsIt(UNSUPPORTED, () -> x.output(0));
            is(x.seen(0, 0), 0);
            is(x.faults(), 6);
        });
    }

    private static void mostFaults() {
        test(7, "returns the number of stuck faults: the least is that of one line", () -> is(open("i !0").close(), 2));
        test(7, "the most is that of 39 gates of two pins", () -> {
            StuckatBench x = open("i !0");
            for (int k = 1; k < 40; k++) x.gate('a', 0, 0);
            is(x.close(), 80 + 39 * 4);
            is(x.pinOf(235), 1);
            is(x.lineOf(235), 39);
        });
        test(7, "a pin has places if its line goes to two places, and none if to one", () -> {
            is(open("i v0 !1").close(), 4);
            is(open("i v0 !0 !1").close(), 6);
            is(open("i v0 v0 !1").close(), 10);
            is(open("i a0,0 !1").close(), 8);
            is(open("i f v0 d1=0").close(), 8);
            // The places of what goes nowhere are its stem's alone.
            is(open("i i v0 !2").close(), 6);
        });
    }

    private static void testPoints() {
        test(8, "refused if there is no such line", () -> {
            for (int line : outside(LINES)) refused(INDEX, CLOSED, x -> x.testPoint(line));
        });
        test(8, "refused as the net is not closed", () -> refused(UNSUPPORTED, OPENED, x -> x.testPoint(0)));
        test(8, "no such line comes ahead of a net that is not closed", () -> {
            refused(INDEX, OPENED, x -> x.testPoint(LINES));
            refused(INDEX, NEW, x -> x.testPoint(0));
        });
        test(8, "a line that is several of them is observed once", () -> {
            is(CLOSED.built().testPoint(4), 1);
            is(CLOSED.built().testPoint(0), 2);
            StuckatBench x = net("i f v0 v0 d1=2 !3");
            is(x.testPoint(2), 2);
            is(x.testPoint(3), 2);
            is(x.testPoint(1), 3);
            is(x.testPoint(1), 3);
            is(net("f f d0=0 d1=0").testPoint(0), 1);
        });
        test(8, "all 40 lines can be observed", () -> {
            StuckatBench x = FORTY_CLOSED.built();
            for (int k = 0; k < 40; k++) is(x.testPoint(k), k + 1);
            is(x.testPoint(39), 40);
        });
        test(8, "a test point is no place of faults", () -> {
            StuckatBench x = net("i b0 !1");
            x.testPoint(0);
            is(x.faults(), 4);
        });
    }

    private static void faultCounts() {
        test(12, "0 if the net is not closed", () -> {
            is(NEW.built().faults(), 0);
            is(OPENED.built().faults(), 0);
        });
        test(12, "all of them as it is: 236 stuck ones, 8 bridges, 8 slow ones", () -> {
            StuckatBench x = open("i i !0");
            for (int k = 2; k < 40; k++) x.gate('a', 0, 0);
            x.close();
            is(x.faults(), 80 + 38 * 4);
            for (int k = 0; k < 8; k++) is(x.bridge('d', 1, k + 2), 232 + k);
            for (int k = 0; k < 8; k++) is(x.slow(k, true), 240 + k);
            is(x.faults(), 248);
        });
        test(16, "there are no classes as the net is not closed", () -> {
            is(NEW.built().classes(), 0);
            is(OPENED.built().classes(), 0);
            is(CLOSED.built().classes() > 0, true);
        });
        test(16, "classes are of stuck faults alone", () -> {
            StuckatBench x = CLOSED.built();
            int before = x.classes();
            x.bridge('w', 0, 1);
            x.slow(0, true);
            is(x.classes(), before);
        });
    }

    private static void faultNumbers() {
        // 10 stems, pins of none; the bridge 10 and the slow one 11.
        Scene scene = () -> {
            StuckatBench x = net(AND_OR, "110");
            x.bridge('w', 1, 0);
            x.slow(3, true);
            return x;
        };
        test(13, "refused if there is no such fault", () -> {
            is(scene.built().lineOf(11), 3);
            for (int fault : outside(12)) refused(INDEX, scene, x -> x.lineOf(fault));
            refused(INDEX, OPENED, x -> x.lineOf(0));
        });
        test(13, "of a bridge it is the first line", () -> is(scene.built().lineOf(10), 1));
        test(14, "refused if there is no such fault", () -> {
            is(scene.built().pinOf(11), -1);
            for (int fault : outside(12)) refused(INDEX, scene, x -> x.pinOf(fault));
            refused(INDEX, OPENED, x -> x.pinOf(0));
        });
        test(14, "-1 for a stem or another model, 0 or 1 for a pin", () -> {
            StuckatBench x = net("i a0,0 !1");
            int[] due = {-1, -1, -1, -1, 0, 0, 1, 1};
            for (int f = 0; f < 8; f++) is(x.pinOf(f), due[f]);
            is(scene.built().pinOf(0), -1);
            is(scene.built().pinOf(10), -1);
            is(scene.built().pinOf(11), -1);
        });
        test(15, "refused if there is no such fault", () -> {
            is(scene.built().alike(11), 11);
            for (int fault : outside(12)) refused(INDEX, scene, x -> x.alike(fault));
            refused(INDEX, OPENED, x -> x.alike(0));
        });
        test(15, "itself for another model", () -> {
            is(scene.built().alike(10), 10);
            is(scene.built().alike(11), 11);
        });
    }

    private static void alikes() {
        test(15, "the stem of a line that goes to one place alone is an input's place", () -> {
            is(net("i b0 !1").alike(2), 0);
            is(net("i b0 !0 !1").alike(2), 2);
            is(net("i b0 !0 !1").alike(4), 2);
        });
        test(15, "a test point counts as one place, too", () -> {
            StuckatBench x = net("i b0 !1");
            is(x.alike(3), 1);
            x.testPoint(1);
            is(x.alike(3), 1);
            x.testPoint(0);
            is(x.alike(3), 3);
        });
        test(15, "a line that goes to one place alone, and is no pin, is alike to nothing", () -> {
            StuckatBench x = net("i f d1=0");
            for (int f = 0; f < 4; f++) is(x.alike(f), f);
        });
        test(15, "nothing is alike at what is unlike", () -> {
            StuckatBench x = net("i i x0,1 !2");
            for (int f = 0; f < 6; f++) is(x.alike(f), f);
        });
        test(15, "nothing is alike through a gate whose line is tied, all is through others", () -> {
            // 3 = a and not a is 0 always, its stem at 0 the fault 10.
            StuckatBench x = net("i i v0 a0,2 b3 o4,1 !5");
            int stem = 0;
            while (x.lineOf(stem) != 3 || x.pinOf(stem) >= 0) stem++;
            int own = stem;
            is(x.alike(own) < own, true);
            is(x.tie(own), 1);
            is(x.alike(own), own);
            // What 3 goes to is no tied gate.
            while (x.lineOf(stem) != 4) stem++;
            is(x.alike(stem), own);
        });
        test(15, "a gate's own line may be tested, or an output", () -> {
            is(net("i b0 b1 !1 !2").alike(2), 0);
            is(net("i b0 b1 !1 !2").alike(4), 4);
        });
    }

    private static void bridges() {
        test(17, "there are three kinds, and no other one", () -> {
            StuckatBench x = CLOSED.built();
            for (char kind : signsBut("wud")) throwsIt(ILLEGAL, () -> x.bridge(kind, 0, 1));
            for (char kind : "wud".toCharArray()) is(CLOSED.built().bridge(kind, 0, 1), CLOSED.built().faults());
            refused(ILLEGAL, CLOSED, y -> y.bridge('a', 0, 1));
        });
        test(17, "refused if there is no such first line", () -> {
            for (int line : outside(LINES)) refused(INDEX, CLOSED, x -> x.bridge('w', line, 0));
        });
        test(17, "refused if there is no such second line", () -> {
            for (int line : outside(LINES)) refused(INDEX, CLOSED, x -> x.bridge('w', 0, line));
        });
        test(17, "refused as the net is not closed", () -> refused(UNSUPPORTED, OPENED, x -> x.bridge('w', 0, 1)));
        test(17, "refused if both are the same", () -> {
            for (int k = 0; k < LINES; k++) {
                int line = k;
                throwsIt(UNSUPPORTED, () -> CLOSED.built().bridge('w', line, line));
            }
            refused(UNSUPPORTED, CLOSED, x -> x.bridge('d', 0, 0));
        });
        test(17, "refused if one depends on the other one, by one gate or by more", () -> {
            refused(UNSUPPORTED, CLOSED, x -> x.bridge('w', 0, 3));
            refused(UNSUPPORTED, CLOSED, x -> x.bridge('w', 3, 1));
            refused(UNSUPPORTED, CLOSED, x -> x.bridge('w', 0, 4));
            refused(UNSUPPORTED, CLOSED, x -> x.bridge('w', 4, 1));
            throwsIt(UNSUPPORTED, () -> FORTY_CLOSED.built().bridge('u', 0, 39));
            throwsIt(UNSUPPORTED, () -> FORTY_CLOSED.built().bridge('u', 39, 0));
        });
        test(17, "a cell does not depend on its data", () -> {
            is(CLOSED.built().bridge('w', 2, 4), CLOSED.built().faults());
            is(CLOSED.built().bridge('w', 4, 2), CLOSED.built().faults());
        });
        test(17, "the last line that there is can be one", () -> {
            StuckatBench x = net("i i b0 b1 !2 !3");
            is(x.bridge('w', 2, 3), x.faults() - 1);
            is(x.bridge('w', 3, 0), x.faults() - 1);
        });
    }

    private static StuckatBench withBridges(int many) {
        StuckatBench x = CLOSED.built();
        int first = x.faults();
        for (int k = 0; k < many; k++) is(x.bridge("wud".charAt(k % 3), 0, 1), first + k);
        return x;
    }

    private static void bridgeOrder() {
        test(17, "the 8th is taken, the 9th is refused", () -> {
            is(withBridges(7).bridge('d', 1, 0), CLOSED.built().faults() + 7);
            refused(STATE, () -> withBridges(8), x -> x.bridge('w', 0, 1));
            refused(STATE, () -> withBridges(8), x -> x.bridge('d', 2, 4));
        });
        test(17, "slow ones do not count as bridges", () -> {
            StuckatBench x = CLOSED.built();
            for (int k = 0; k < 8; k++) x.slow(0, true);
            for (int k = 0; k < 8; k++) is(x.bridge('w', 0, 1), CLOSED.built().faults() + 8 + k);
            throwsIt(STATE, () -> x.bridge('w', 0, 1));
        });
        test(17, "no such kind comes first", () -> {
            refused(ILLEGAL, CLOSED, x -> x.bridge('x', LINES, 0));
            refused(ILLEGAL, OPENED, x -> x.bridge('x', 0, 1));
            refused(ILLEGAL, CLOSED, x -> x.bridge('x', 0, 0));
            refused(ILLEGAL, () -> withBridges(8), x -> x.bridge('x', 0, 1));
        });
        test(17, "no such line comes ahead of what is unsupported, and of 8", () -> {
            refused(INDEX, OPENED, x -> x.bridge('w', 0, LINES));
            refused(INDEX, NEW, x -> x.bridge('w', 0, 0));
            refused(INDEX, CLOSED, x -> x.bridge('w', LINES, LINES));
            refused(INDEX, () -> withBridges(8), x -> x.bridge('w', -1, 1));
        });
        test(17, "what is unsupported comes ahead of 8", () -> {
            refused(UNSUPPORTED, () -> withBridges(8), x -> x.bridge('w', 1, 1));
            refused(UNSUPPORTED, () -> withBridges(8), x -> x.bridge('w', 0, 3));
        });
    }

    private static StuckatBench withSlows(int many) {
        StuckatBench x = CLOSED.built();
        int first = x.faults();
        for (int k = 0; k < many; k++) is(x.slow(k % LINES, k % 2 == 0), first + k);
        return x;
    }

    private static void slows() {
        test(18, "refused if there is no such line", () -> {
            is(CLOSED.built().slow(LINES - 1, true), CLOSED.built().faults());
            for (int line : outside(LINES)) refused(INDEX, CLOSED, x -> x.slow(line, true));
        });
        test(18, "refused as the net is not closed", () -> refused(UNSUPPORTED, OPENED, x -> x.slow(0, false)));
        test(18, "the 8th is taken, the 9th is refused", () -> {
            is(withSlows(7).slow(0, true), CLOSED.built().faults() + 7);
            refused(STATE, () -> withSlows(8), x -> x.slow(0, true));
            refused(STATE, () -> withSlows(8), x -> x.slow(4, false));
        });
        test(18, "bridges do not count as slow ones", () -> {
            StuckatBench x = withBridges(8);
            is(x.slow(0, true), x.faults() - 1);
        });
        test(18, "no such line comes first", () -> {
            refused(INDEX, OPENED, x -> x.slow(LINES, true));
            refused(INDEX, NEW, x -> x.slow(0, true));
            refused(INDEX, () -> withSlows(8), x -> x.slow(-1, true));
        });
    }
}
