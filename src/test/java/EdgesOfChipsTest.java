/** The sentences that name an edge, an empty, a full or a refused case: promises 40 to 53 and 71. */
public final class EdgesOfChipsTest extends Checks {
    private static final Scene NEW = StuckatBench::new;
    private static final Scene OPENED = () -> open(AND_OR);
    private static final Scene BARE = () -> net(AND_OR);
    private static final int PATTERNS = 4;
    private static final int STUCK = 10;
    private static final int BRIDGE = 10;
    private static final int SLOW = 11;
    private static final int FAULTS = 12;
    private static final Scene FOUR = () -> {
        StuckatBench x = net(AND_OR, "110", "001", "000", "11?");
        x.bridge('w', 0, 2);
        x.slow(4, false);
        return x;
    };
    private static final Scene BROKEN = () -> {
        StuckatBench x = FOUR.built();
        x.breakChip(6);
        x.record();
        return x;
    };
    private static final Scene TWICE = () -> {
        StuckatBench x = BROKEN.built();
        x.breakChip(4);
        return x;
    };
    // Sources: a, and the cells 0 and 1, which take a unlike the cell 0, and not both cells.
    private static final Scene CELLS = () -> net(CHAIN, "110", "0?1");
    private static final Scene CELLS_BROKEN = () -> {
        StuckatBench x = CELLS.built();
        x.breakChain(1, 1);
        return x;
    };
    private static final String TWELVE_CELLS = "f f f f f f f f f f f f d0=0 d1=0 d2=0 d3=0 d4=0 d5=0 d6=0 d7=0 d8=0 d9=0 d10=0 d11=0";

    public static void main(String[] args) {
        chips();
        chipOrder();
        mends();
        fails();
        candidates();
        wrongs();
        records();
        tallies();
        chains();
        chainOrder();
        seen();
        suspects();
        cycles();
        times();
        orders();
        escapes();
        soundness();
        allRefused(40, 53);
        allRefused(71, 71);
        end();
    }

    // ---- promises 40 to 46

    private static void chips() {
        test(40, "refused if there is no such fault", () -> {
            for (int fault : outside(FAULTS)) refused(INDEX, FOUR, x -> x.breakChip(fault));
            refused(INDEX, NEW, x -> x.breakChip(0));
            refused(INDEX, OPENED, x -> x.breakChip(0));
        });
        test(40, "refused if it is no stuck fault", () -> {
            refused(ILLEGAL, FOUR, x -> x.breakChip(BRIDGE));
            refused(ILLEGAL, FOUR, x -> x.breakChip(SLOW));
            is(FOUR.built().breakChip(STUCK - 1), 1);
        });
        test(40, "the second one is taken, the third is refused", () -> {
            is(BROKEN.built().breakChip(0), 2);
            refused(STATE, TWICE, x -> x.breakChip(0));
            refused(STATE, TWICE, x -> x.breakChip(6));
        });
        test(40, "without patterns it is taken, too", () -> is(BARE.built().breakChip(0), 1));
        test(40, "of two at one place the later one, and both count", () -> {
            StuckatBench x = net("i a0,0 !1", "1", "0");
            is(x.breakChip(2), 1);
            is(x.breakChip(3), 2);
            is(x.fails(0), 0L);
            is(x.fails(1), 1L);
            is(x.mend(), 2);
            // The pins of a gate and its stem are three places.
            x.breakChip(5);
            x.breakChip(7);
            is(x.fails(1), 1L);
            x.mend();
            x.breakChip(5);
            x.breakChip(5);
            is(x.fails(1), 0L);
            is(x.mend(), 2);
            x.breakChip(5);
            x.breakChip(4);
            is(x.fails(0), 1L);
        });
        test(40, "both are put in at once", () -> {
            StuckatBench x = net("i i b0 b1 !2 !3", "11");
            x.breakChip(0);
            x.breakChip(6);
            is(x.fails(0), 3L);
        });
    }

    private static void chipOrder() {
        test(40, "no such fault comes ahead of 2", () -> refused(INDEX, TWICE, x -> x.breakChip(FAULTS)));
        test(40, "no stuck fault comes ahead of 2", () -> refused(ILLEGAL, TWICE, x -> x.breakChip(BRIDGE)));
    }

    private static void mends() {
        test(41, "how many faults the one before had: none, 1, 2", () -> {
            is(NEW.built().mend(), 0);
            is(FOUR.built().mend(), 0);
            is(BROKEN.built().mend(), 1);
            StuckatBench x = TWICE.built();
            is(x.mend(), 2);
            is(x.mend(), 0);
            is(x.fails(0), 0L);
            is(x.breakChip(1), 1);
        });
    }

    private static void fails() {
        test(42, "refused if there is no such pattern", () -> {
            is(BROKEN.built().fails(0), 1L);
            is(BROKEN.built().fails(PATTERNS - 1), 0L);
            for (int pattern : outside(PATTERNS)) refused(INDEX, BROKEN, x -> x.fails(pattern));
            refused(INDEX, NEW, x -> x.fails(0));
            refused(INDEX, BARE, x -> x.fails(0));
        });
        test(42, "none without a fault in the chip", () -> {
            for (int p = 0; p < PATTERNS; p++) is(FOUR.built().fails(p), 0L);
        });
        test(42, "what is not known, in the net or on the chip, is no fail", () -> {
            StuckatBench x = net("i i a0,1 !2", "1?", "?1");
            x.breakChip(0);
            is(x.fails(0), 0L);
            is(x.fails(1), 0L);
            StuckatBench y = net("i i a0,1 !2", "0?", "00");
            y.breakChip(1);
            is(y.fails(0), 0L);
            y.breakChip(3);
            is(y.fails(0), 1L);
            is(y.fails(1), 1L);
        });
        test(42, "of 40 observed lines the last one is 2 to the power of 39", () -> {
            StuckatBench x = rowOf(40);
            for (int k = 1; k < 40; k++) x.output(k);
            x.close();
            add(x, "1");
            int last = x.faults() - 1;
            while (x.pinOf(last) >= 0) last--;
            x.breakChip(last - 1);
            is(x.fails(0), 1L << 39);
            x.mend();
            x.breakChip(0);
            is(x.fails(0), (1L << 40) - 1);
        });
        test(42, "the pattern 31 fails by itself", () -> {
            StuckatBench x = inputs(1);
            for (int p = 0; p < 31; p++) x.pattern(1, 0);
            x.pattern(1, 1);
            x.breakChip(0);
            is(x.fails(31), 1L);
            is(x.fails(30), 0L);
        });
    }

    private static void candidates() {
        test(43, "from the index 0 to the last candidate", () -> {
            // The class of d at 0 is that of a at 0; z at 0 explains the same, and is wrong once.
            is(BROKEN.built().candidate(0), 0);
            is(BROKEN.built().candidate(1), 8);
            for (int index : outside(2)) refused(NO_ELEMENT, BROKEN, x -> x.candidate(index));
        });
        test(43, "none as the chip has no fault, or nothing fails", () -> {
            refused(NO_ELEMENT, NEW, x -> x.candidate(0));
            refused(NO_ELEMENT, FOUR, x -> x.candidate(0));
            throwsIt(NO_ELEMENT, () -> {
                StuckatBench x = BARE.built();
                x.breakChip(0);
                return x.candidate(0);
            });
            throwsIt(NO_ELEMENT, () -> {
                StuckatBench x = net(AND_OR, "000");
                x.breakChip(0);
                return x.candidate(0);
            });
        });
        test(43, "fewer wrong ones come first, then numbers", () -> {
            StuckatBench x = net("i i b0 b1 !2 !3", "11", "10", "00");
            x.breakChip(2);
            x.breakChip(0);
            // a at 0 explains two of three fails, b at 0 one.
            is(x.candidate(0), 0);
            is(x.candidate(1), 2);
            throwsIt(NO_ELEMENT, () -> x.candidate(2));
            StuckatBench y = net("i i b0 b1 !2 !3", "11", "01");
            y.breakChip(0);
            y.breakChip(2);
            is(y.candidate(0), 2);
            is(y.candidate(1), 0);
            StuckatBench even = net("i i b0 b1 !2 !3", "11");
            even.breakChip(2);
            even.breakChip(0);
            is(even.candidate(0), 0);
            is(even.candidate(1), 2);
        });
    }

    private static void wrongs() {
        test(44, "refused if there is no such fault", () -> {
            for (int fault : outside(FAULTS)) refused(INDEX, BROKEN, x -> x.wrong(fault));
            refused(INDEX, NEW, x -> x.wrong(0));
        });
        test(44, "refused if it is no stuck fault", () -> {
            refused(ILLEGAL, BROKEN, x -> x.wrong(BRIDGE));
            refused(ILLEGAL, BROKEN, x -> x.wrong(SLOW));
            is(BROKEN.built().wrong(STUCK - 1), 2);
        });
        test(44, "none without patterns, or for the fault that is in", () -> {
            for (int f = 0; f < STUCK; f++) is(BARE.built().wrong(f), 0);
            is(BROKEN.built().wrong(6), 0);
            is(BROKEN.built().wrong(0), 0);
        });
        test(44, "those in one alone, whichever it is", () -> {
            StuckatBench x = net("i i b0 b1 !2 !3", "11");
            is(x.wrong(0), 1);
            is(x.wrong(1), 0);
            x.breakChip(0);
            is(x.wrong(0), 0);
            is(x.wrong(1), 1);
            is(x.wrong(2), 2);
        });
        test(44, "as many as 32 patterns and 40 lines are", () -> {
            StuckatBench x = rowOf(40);
            for (int k = 1; k < 40; k++) x.output(k);
            x.close();
            while (x.patterns() < 32) x.pattern(1, 1);
            is(x.wrong(0), 32 * 40);
            is(x.wrong(1), 0);
        });
    }

    private static void records() {
        test(45, "refused if there is no candidate", () -> {
            refused(NO_ELEMENT, NEW, x -> x.record());
            refused(NO_ELEMENT, BARE, x -> x.record());
            refused(NO_ELEMENT, FOUR, x -> x.record());
            refused(NO_ELEMENT, () -> {
                StuckatBench x = BROKEN.built();
                x.mend();
                return x;
            }, x -> x.record());
            // What is in the chip does not fail.
            refused(NO_ELEMENT, () -> {
                StuckatBench x = net(AND_OR, "000");
                x.breakChip(0);
                return x;
            }, x -> x.record());
        });
        test(45, "returns the tally then: 1 at the first time, and one more each time", () -> {
            StuckatBench x = FOUR.built();
            x.breakChip(6);
            for (int k = 1; k < 100; k++) is(x.record(), k);
        });
        test(45, "the tally of the first candidate alone", () -> {
            StuckatBench x = BROKEN.built();
            int[] due = {1, 0, 1, 0, 0, 0, 1, 0, 0, 0};
            for (int f = 0; f < STUCK; f++) is(x.tally(f), due[f]);
        });
    }

    private static void tallies() {
        test(46, "refused if there is no such fault", () -> {
            for (int fault : outside(FAULTS)) refused(INDEX, BROKEN, x -> x.tally(fault));
            refused(INDEX, NEW, x -> x.tally(0));
        });
        test(46, "refused if it is no stuck fault", () -> {
            refused(ILLEGAL, BROKEN, x -> x.tally(BRIDGE));
            refused(ILLEGAL, BROKEN, x -> x.tally(SLOW));
            is(BROKEN.built().tally(STUCK - 1), 0);
        });
        test(46, "0 at first", () -> {
            for (int f = 0; f < STUCK; f++) is(FOUR.built().tally(f), 0);
        });
        test(46, "it stays as the chip is mended", () -> {
            StuckatBench x = BROKEN.built();
            x.mend();
            is(x.tally(6), 1);
        });
    }

    // ---- promises 47 to 50

    private static void chains() {
        test(47, "the place of a cell, from 0, or -1", () -> {
            is(CELLS.built().breakChain(0, 1), -1);
            is(CELLS.built().breakChain(1, 0), -1);
            is(CELLS.built().breakChain(-1, 0), -1);
            for (int place : outside(-1, 1)) refused(ILLEGAL, CELLS, x -> x.breakChain(place, 0));
            refused(ILLEGAL, CELLS_BROKEN, x -> x.breakChain(2, 0));
            is(net(TWELVE_CELLS).breakChain(11, 0), -1);
            throwsIt(ILLEGAL, () -> net(TWELVE_CELLS).breakChain(12, 0));
        });
        test(47, "without cells there is no place but -1", () -> {
            is(BARE.built().breakChain(-1, 0), -1);
            refused(ILLEGAL, BARE, x -> x.breakChain(0, 0));
        });
        test(47, "the value is 0 or 1", () -> {
            is(CELLS.built().breakChain(1, 1), -1);
            for (int value : outside(0, 1)) {
                refused(ILLEGAL, CELLS, x -> x.breakChain(0, value));
                refused(ILLEGAL, CELLS_BROKEN, x -> x.breakChain(-1, value));
            }
        });
        test(47, "returns the place before, or -1", () -> {
            StuckatBench x = CELLS.built();
            is(x.breakChain(1, 0), -1);
            is(x.breakChain(1, 1), 1);
            is(x.breakChain(0, 1), 1);
            is(x.breakChain(-1, 0), 0);
            is(x.breakChain(-1, 1), -1);
        });
    }

    private static void chainOrder() {
        test(47, "refused as the net is not closed", () -> {
            refused(UNSUPPORTED, () -> open(CHAIN), x -> x.breakChain(1, 0));
            refused(UNSUPPORTED, () -> open(CHAIN), x -> x.breakChain(-1, 0));
            refused(UNSUPPORTED, NEW, x -> x.breakChain(-1, 1));
        });
        test(47, "no such place or value comes ahead of a net that is not closed", () -> {
            refused(ILLEGAL, () -> open(CHAIN), x -> x.breakChain(2, 0));
            refused(ILLEGAL, () -> open(CHAIN), x -> x.breakChain(-2, 0));
            refused(ILLEGAL, () -> open(CHAIN), x -> x.breakChain(0, 2));
            refused(ILLEGAL, NEW, x -> x.breakChain(0, 0));
            refused(ILLEGAL, NEW, x -> x.breakChain(-1, -1));
        });
    }

    private static void seen() {
        test(48, "refused if there is no such pattern", () -> {
            is(CELLS.built().seen(1, 1), 2);
            for (int pattern : outside(2)) refused(INDEX, CELLS, x -> x.seen(pattern, 0));
            refused(INDEX, NEW, x -> x.seen(0, 0));
            refused(INDEX, () -> net(CHAIN), x -> x.seen(0, 0));
        });
        test(48, "refused if there is no such place", () -> {
            for (int place : outside(2)) refused(INDEX, CELLS, x -> x.seen(0, place));
            refused(INDEX, FOUR, x -> x.seen(0, 0));
        });
        test(48, "this cell and all ahead of it are seen as this, those behind it as they are", () -> {
            // All cells take the source 3, which is 1; the first, the second, the last one is broken.
            StuckatBench x = net("f f f i d0=3 d1=3 d2=3", "0001");
            String[] due = {"011", "001", "000"};
            for (int place = 0; place < 3; place++) {
                x.breakChain(place, 0);
                is("" + x.seen(0, 0) + x.seen(0, 1) + x.seen(0, 2), due[place]);
            }
            x.breakChain(-1, 0);
            is("" + x.seen(0, 0) + x.seen(0, 1) + x.seen(0, 2), "111");
        });
        test(48, "this cell and all behind it get this, those ahead of it what the pattern has", () -> {
            // The last cell, which is seen as it is, takes what the one ahead, or itself, has got.
            StuckatBench x = net("f f f d0=0 d1=1 d2=0", "000");
            x.breakChain(0, 1);
            is(x.seen(0, 2), 1);
            x.breakChain(1, 1);
            is(x.seen(0, 2), 0);
            StuckatBench y = net("f f f d0=0 d1=1 d2=1", "000");
            y.breakChain(1, 1);
            is(y.seen(0, 2), 1);
            StuckatBench z = net("f f f d0=0 d1=1 d2=2", "000");
            z.breakChain(0, 1);
            is(z.seen(0, 2), 1);
        });
    }

    private static void suspects() {
        test(49, "0 if the chain is not broken", () -> {
            is(NEW.built().suspects(), 0);
            is(CELLS.built().suspects(), 0);
            is(BARE.built().suspects(), 0);
            StuckatBench x = CELLS_BROKEN.built();
            is(x.suspects() != 0, true);
            x.breakChain(-1, 0);
            is(x.suspects(), 0);
        });
        test(49, "for all patterns, so without any all places", () -> {
            StuckatBench x = net(TWELVE_CELLS);
            x.breakChain(3, 1);
            is(x.suspects(), 4095);
        });
        test(49, "the first and the last place alone", () -> {
            StuckatBench x = net("f f f i v0 v1 d0=3 d1=4 d2=5", "1011");
            x.breakChain(2, 0);
            is(x.suspects(), 4);
            StuckatBench y = net("f f f i d0=3 d1=3 d2=3", "0001");
            y.breakChain(0, 0);
            is(y.suspects(), 1);
        });
        test(49, "one pattern that tells is enough", () -> {
            StuckatBench x = net("f f f i d0=3 d1=3 d2=3", "0000", "0000");
            x.breakChain(1, 0);
            is(x.suspects(), 7);
            add(x, "0001");
            is(x.suspects(), 2);
        });
        test(49, "2 is like 2 alone", () -> {
            StuckatBench x = net("f f i d0=2 d1=2", "00?");
            x.breakChain(0, 0);
            is(x.suspects(), 1);
            x.breakChain(1, 0);
            is(x.suspects(), 2);
        });
    }

    private static void cycles() {
        test(50, "without cells, without patterns, without both", () -> {
            is(NEW.built().cycles(), 0);
            is(BARE.built().cycles(), 0);
            is(FOUR.built().cycles(), 4);
            is(net(CHAIN).cycles(), 2);
            is(CELLS.built().cycles(), 8);
        });
        test(50, "with 12 cells and 32 patterns", () -> {
            StuckatBench x = net(TWELVE_CELLS);
            is(x.cycles(), 12);
            while (x.patterns() < 32) x.pattern(0, 0);
            is(x.cycles(), 13 * 32 + 12);
        });
    }

    // ---- promises 51 to 53

    private static void times() {
        test(51, "1 at first", () -> {
            for (int p = 0; p < PATTERNS; p++) is(FOUR.built().setTime(p, 5), 1);
            StuckatBench x = FOUR.built();
            is(x.setTime(x.make(0), 9), 1);
        });
        test(51, "1 to 99", () -> {
            StuckatBench x = FOUR.built();
            is(x.setTime(0, 99), 1);
            is(x.setTime(0, 1), 99);
            is(x.setTime(0, 1), 1);
            for (int time : outside(1, 99)) refused(ILLEGAL, FOUR, y -> y.setTime(2, time));
            throwsIt(ILLEGAL, () -> FOUR.built().setTime(0, 0));
        });
        test(51, "refused if there is no such pattern", () -> {
            is(FOUR.built().setTime(PATTERNS - 1, 2), 1);
            for (int pattern : outside(PATTERNS)) refused(INDEX, FOUR, x -> x.setTime(pattern, 2));
            refused(INDEX, NEW, x -> x.setTime(0, 1));
        });
        test(51, "no such pattern comes ahead of a time out of range", () -> {
            refused(INDEX, FOUR, x -> x.setTime(PATTERNS, 0));
            refused(INDEX, FOUR, x -> x.setTime(-1, 100));
        });
    }

    private static void orders() {
        test(52, "from the index 0 to the last pattern", () -> {
            is(FOUR.built().orderAt(PATTERNS - 1), 3);
            for (int index : outside(PATTERNS)) refused(NO_ELEMENT, FOUR, x -> x.orderAt(index));
            refused(NO_ELEMENT, NEW, x -> x.orderAt(0));
            refused(NO_ELEMENT, BARE, x -> x.orderAt(0));
            is(inputs(1, "?").orderAt(0), 0);
        });
        test(52, "of several the lowest number, those that gain nothing, too", () -> {
            StuckatBench x = inputs(1, "?", "0", "?", "0");
            is("" + x.orderAt(0) + x.orderAt(1) + x.orderAt(2) + x.orderAt(3), "1023");
            StuckatBench y = inputs(1);
            while (y.patterns() < 32) y.pattern(1, 1);
            for (int p = 0; p < 32; p++) is(y.orderAt(p), p);
        });
        test(52, "compared exactly", () -> {
            // One class in the time 49 is more than two in 99, and one in 50 is less.
            StuckatBench x = net("i i !0 !1", "0?", "11");
            x.setTime(1, 99);
            x.setTime(0, 49);
            is(x.orderAt(0), 0);
            x.setTime(0, 50);
            is(x.orderAt(0), 1);
        });
        test(52, "a class's tally counts, and 1", () -> {
            StuckatBench x = inputs(1, "1", "0");
            x.setTime(0, 2);
            is(x.orderAt(0), 1);
            x.breakChip(0);
            x.record();
            // 2 in the time 2 is as much as 1 in 1.
            is(x.orderAt(0), 0);
        });
    }

    private static void escapes() {
        Scene scene = () -> {
            StuckatBench x = inputs(1, "1", "0", "?");
            x.breakChip(0);
            x.record();
            x.record();
            x.mend();
            x.breakChip(1);
            x.record();
            return x;
        };
        test(53, "0 to all", () -> {
            is(scene.built().escapes(0), 3);
            is(scene.built().escapes(1), 1);
            is(scene.built().escapes(2), 0);
            is(scene.built().escapes(3), 0);
            for (int many : outside(0, 3)) refused(ILLEGAL, scene, x -> x.escapes(many));
        });
        test(53, "without patterns 0 is all", () -> {
            is(NEW.built().escapes(0), 0);
            refused(ILLEGAL, NEW, x -> x.escapes(1));
            refused(ILLEGAL, NEW, x -> x.escapes(-1));
            is(BARE.built().escapes(0), 0);
            refused(ILLEGAL, BARE, x -> x.escapes(1));
        });
        test(53, "what all but the last one in the order do not find escapes them", () -> {
            StuckatBench x = inputs(1, "1", "0", "?");
            x.breakChip(0);
            x.record();
            x.setTime(0, 99);
            is(x.escapes(1), 1);
            is(x.escapes(2), 0);
        });
    }

    // ---- promise 71

    private static void soundness() {
        test(71, "of a new object, and of a net that is not closed", () -> {
            is(NEW.built().isSound(), true);
            is(OPENED.built().isSound(), true);
        });
        test(71, "without patterns, with unknown values alone, with a chip of none, one and two", () -> {
            is(BARE.built().isSound(), true);
            is(net(AND_OR, "???", "1??").isSound(), true);
            is(FOUR.built().isSound(), true);
            is(BROKEN.built().isSound(), true);
            is(TWICE.built().isSound(), true);
        });
        test(71, "a single fault in the chip that does not fail", () -> {
            StuckatBench x = net(REDUNDANT, "00", "01", "10", "11");
            x.breakChip(0);
            is(x.isSound(), true);
        });
        test(71, "with 40 lines, 12 sources and 32 patterns", () -> {
            StuckatBench x = open("i i i i i i i i i i i i");
            for (int k = 12; k < 40; k++) x.gate("aonrxbv".charAt(k % 7), k - 11, k - 5);
            for (int k = 36; k < 40; k++) x.output(k);
            x.close();
            for (int p = 0; p < 32; p++) x.pattern(4095, p * 131 & 4095);
            x.breakChip(17);
            is(x.isSound(), true);
            is(x.fails(31) >= 0, true);
        });
        test(71, "behind ties and test points", () -> {
            StuckatBench x = net(REDUNDANT, "00", "01", "10", "11");
            x.breakChip(1);
            x.tie(0);
            x.testPoint(0);
            is(x.fails(0), 1L);
            is(x.isSound(), true);
        });
    }
}
