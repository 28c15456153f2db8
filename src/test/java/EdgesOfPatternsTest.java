/** The sentences that name an edge, an empty, a full or a refused case: promises 9 to 11, 19 to 39 and 70. */
public final class EdgesOfPatternsTest extends Checks {
    private static final Scene NEW = StuckatBench::new;
    private static final Scene OPENED = () -> open(AND_OR);
    private static final Scene BARE = () -> net(AND_OR);
    private static final int LINES = 5;
    private static final int STUCK = 10;
    private static final int BRIDGE = 10;
    private static final int SLOW = 11;
    private static final int FAULTS = 12;
    private static final int PATTERNS = 4;
    private static final Scene FOUR = () -> {
        StuckatBench x = net(AND_OR, "110", "11?", "0?0", "001");
        x.bridge('w', 0, 2);
        x.slow(4, false);
        x.setTime(1, 7);
        return x;
    };
    // The stem 0 is impossible at both values, and so is the pin 8 at 0.
    private static final Scene SPARE = () -> {
        StuckatBench x = net(REDUNDANT, "00", "1?");
        x.bridge('u', 3, 4);
        x.slow(1, true);
        return x;
    };
    private static final Scene FULL = () -> full(SPARE.built());

    public static void main(String[] args) {
        patterns();
        patternOrder();
        values();
        faultyValues();
        finds();
        findsByD();
        foundBy();
        bridged();
        coverage();
        made();
        madeOrder();
        decisions();
        impossible();
        ties();
        tiedRuns();
        merges();
        mergesOfAll();
        turnedAbout();
        fills();
        powers();
        counts();
        rings();
        seeds();
        signatures();
        aliased();
        chances();
        longChances();
        weights();
        ways();
        hardest();
        means();
        allRefused(9, 11);
        allRefused(19, 39);
        allRefused(70, 70);
        end();
    }

    private static StuckatBench full(StuckatBench x) {
        while (x.patterns() < 32) x.pattern(3, 2);
        return x;
    }

    // ---- promises 9 to 11

    private static void patterns() {
        test(9, "all sources that there are may be known, and no other ones", () -> {
            is(BARE.built().pattern(7, 7), 0);
            is(BARE.built().pattern(0, 0), 0);
            refused(ILLEGAL, BARE, x -> x.pattern(8, 0));
            refused(ILLEGAL, BARE, x -> x.pattern(-1, 0));
            refused(ILLEGAL, BARE, x -> x.pattern(MIN, 0));
            refused(ILLEGAL, FOUR, x -> x.pattern(15, 7));
            is(inputs(12).pattern(4095, 4095), 0);
            throwsIt(ILLEGAL, () -> inputs(12).pattern(4096, 0));
            throwsIt(ILLEGAL, () -> inputs(1).pattern(2, 0));
            is(inputs(1).pattern(1, 1), 0);
        });
        test(9, "those that are 1 are known, and are sources", () -> {
            is(BARE.built().pattern(5, 5), 0);
            is(BARE.built().pattern(5, 0), 0);
            refused(ILLEGAL, BARE, x -> x.pattern(5, 2));
            refused(ILLEGAL, BARE, x -> x.pattern(5, 7));
            refused(ILLEGAL, BARE, x -> x.pattern(0, 1));
            refused(ILLEGAL, BARE, x -> x.pattern(7, 8));
            refused(ILLEGAL, BARE, x -> x.pattern(7, MIN));
            refused(ILLEGAL, BARE, x -> x.pattern(7, -1));
        });
        test(9, "refused as the net is not closed", () -> {
            refused(UNSUPPORTED, OPENED, x -> x.pattern(7, 5));
            refused(UNSUPPORTED, NEW, x -> x.pattern(0, 0));
        });
        test(9, "the 32nd is taken, the 33rd is refused", () -> {
            StuckatBench x = BARE.built();
            for (int p = 0; p < 32; p++) is(x.pattern(7, p & 7), p);
            throwsIt(STATE, () -> x.pattern(7, 0));
            is(x.patterns(), 32);
            refused(STATE, FULL, y -> y.pattern(3, 1));
        });
    }

    private static void patternOrder() {
        test(9, "no such sources come ahead of a net that is not closed", () -> {
            refused(ILLEGAL, OPENED, x -> x.pattern(8, 0));
            refused(ILLEGAL, OPENED, x -> x.pattern(1, 2));
            refused(ILLEGAL, NEW, x -> x.pattern(1, 0));
        });
        test(9, "no such sources come ahead of 32", () -> {
            refused(ILLEGAL, FULL, x -> x.pattern(4, 0));
            refused(ILLEGAL, FULL, x -> x.pattern(1, 2));
        });
    }

    private static void values() {
        test(10, "refused if there is no such pattern", () -> {
            is(FOUR.built().value(PATTERNS - 1, LINES - 1), 1);
            for (int pattern : outside(PATTERNS)) refused(INDEX, FOUR, x -> x.value(pattern, 0));
            throwsIt(INDEX, () -> FULL.built().value(32, 0));
            is(FULL.built().value(31, 0), 0);
            refused(INDEX, BARE, x -> x.value(0, 0));
            refused(INDEX, OPENED, x -> x.value(0, 0));
            refused(INDEX, NEW, x -> x.value(0, 0));
        });
        test(10, "refused if there is no such line", () -> {
            is(FOUR.built().value(0, 0), 1);
            for (int line : outside(LINES)) refused(INDEX, FOUR, x -> x.value(0, line));
        });
        test(10, "2 is what is not known", () -> {
            is(FOUR.built().value(1, 2), 2);
            is(FOUR.built().value(1, 4), 1);
            is(FOUR.built().value(2, 1), 2);
            is(FOUR.built().value(2, 3), 0);
        });
    }

    private static void faultyValues() {
        test(11, "refused if there is no such pattern", () -> {
            is(FOUR.built().faulty(PATTERNS - 1, LINES - 1, FAULTS - 1), 1);
            for (int pattern : outside(PATTERNS)) refused(INDEX, FOUR, x -> x.faulty(pattern, 0, 0));
            refused(INDEX, BARE, x -> x.faulty(0, 0, 0));
            refused(INDEX, NEW, x -> x.faulty(0, 0, 0));
        });
        test(11, "refused if there is no such line", () -> {
            for (int line : outside(LINES)) refused(INDEX, FOUR, x -> x.faulty(0, line, 0));
        });
        test(11, "refused if there is no such fault", () -> {
            for (int fault : outside(FAULTS)) refused(INDEX, FOUR, x -> x.faulty(0, 0, fault));
        });
        test(11, "with a slow one, nothing is ahead of the pattern 0", () -> {
            StuckatBench x = net("i !0", "1", "1", "0", "0", "?", "1");
            int rise = x.slow(0, true);
            int fall = x.slow(0, false);
            is(x.faulty(0, 0, rise), 1);
            is(x.faulty(0, 0, fall), 1);
            is(x.faulty(1, 0, fall), 1);
            is(x.faulty(2, 0, fall), 1);
            is(x.faulty(3, 0, fall), 0);
            is(x.faulty(4, 0, fall), 2);
            is(x.faulty(4, 0, rise), 0);
            is(x.faulty(5, 0, rise), 1);
        });
        test(11, "the pattern 31 has the one ahead of it", () -> {
            StuckatBench x = inputs(1, "1", "0");
            while (x.patterns() < 32) x.pattern(1, x.patterns() & 1);
            int rise = x.slow(0, true);
            is(x.value(31, 0), 1);
            is(x.faulty(31, 0, rise), 0);
            is(x.finds(rise, 31, 'p'), true);
            is(x.finds(rise, 31, 's'), true);
            is(x.finds(rise, 30, 'p'), false);
        });
    }

    // ---- promises 19 to 21

    private static void finds() {
        test(19, "refused if there is no such fault", () -> {
            for (int fault : outside(FAULTS)) refused(INDEX, FOUR, x -> x.finds(fault, 0, 's'));
            refused(INDEX, NEW, x -> x.finds(0, 0, 's'));
        });
        test(19, "refused if there is no such pattern", () -> {
            is(FOUR.built().finds(FAULTS - 1, PATTERNS - 1, 's'), false);
            for (int pattern : outside(PATTERNS)) refused(INDEX, FOUR, x -> x.finds(0, pattern, 'p'));
            refused(INDEX, BARE, x -> x.finds(0, 0, 'd'));
        });
        test(19, "there are three engines, and no other one", () -> {
            StuckatBench x = FOUR.built();
            for (char engine : signsBut("spd")) throwsIt(ILLEGAL, () -> x.finds(0, 0, engine));
            for (char engine : "spd".toCharArray()) is(x.finds(0, 0, engine), true);
            refused(ILLEGAL, FOUR, y -> y.finds(0, 0, 'S'));
            refused(ILLEGAL, FOUR, y -> y.finds(SLOW, 0, 'l'));
        });
        test(19, "no such fault or pattern comes ahead of no such engine", () -> {
            refused(INDEX, FOUR, x -> x.finds(FAULTS, 0, 'q'));
            refused(INDEX, FOUR, x -> x.finds(0, PATTERNS, 'q'));
        });
        test(19, "a stuck one is found by d by patterns without unknown values alone", () -> {
            StuckatBench x = net("i i b0 !2", "1?", "?1", "10", "11");
            is(x.finds(0, 0, 's'), true);
            is(x.finds(0, 0, 'p'), true);
            is(x.finds(0, 0, 'd'), false);
            is(x.finds(0, 2, 'd'), true);
            is(x.finds(0, 3, 'd'), true);
        });
        test(19, "other models are found by d like by s, with unknown values, too", () -> {
            StuckatBench x = net("i i i b0 !3", "10?", "1??", "0??", "???");
            int bridge = x.bridge('w', 0, 1);
            int slow = x.slow(0, false);
            for (char engine : "spd".toCharArray()) {
                is(x.finds(bridge, 0, engine), true);
                is(x.finds(bridge, 1, engine), false);
                is(x.finds(slow, 1, engine), false);
                is(x.finds(slow, 2, engine), true);
                is(x.finds(slow, 3, engine), false);
            }
        });
        test(19, "the pattern 0 finds no slow one", () -> {
            for (char engine : "spd".toCharArray()) {
                StuckatBench x = inputs(1, "1", "0", "1");
                is(x.finds(x.slow(0, true), 0, engine), false);
                is(x.finds(2, 2, engine), true);
                StuckatBench y = inputs(1, "0", "1", "0");
                is(y.finds(y.slow(0, false), 0, engine), false);
                is(y.finds(2, 2, engine), true);
            }
        });
    }

    private static void findsByD() {
        test(19, "d finds by the pattern that it is asked for, whatever was asked before", () -> {
            StuckatBench x = net("i v0 !1", "0", "1");
            is(x.finds(0, 1, 'd'), true);
            is(x.finds(0, 0, 'd'), false);
            is(x.finds(1, 0, 'd'), true);
            is(x.finds(1, 1, 'd'), false);
            StuckatBench y = net("i v0 !1", "0", "1");
            is(y.finds(1, 0, 'd'), true);
        });
        test(19, "d finds the last one of 236 stuck ones, and those round the bounds of a word", () -> {
            StuckatBench x = open("i !0");
            for (int k = 1; k < 40; k++) {
                x.gate('a', 0, 0);
                x.output(k);
            }
            x.close();
            add(x, "1");
            for (int f = 0; f < 236; f++) {
                boolean isAtZero = f % 2 == 0;
                is(x.finds(f, 0, 'd'), isAtZero);
                is(x.finds(f, 0, 's'), isAtZero);
                is(x.finds(f, 0, 'p'), isAtZero);
            }
        });
    }

    private static void foundBy() {
        test(20, "refused if there is no such fault", () -> {
            for (int fault : outside(FAULTS)) refused(INDEX, FOUR, x -> x.foundBy(fault));
            refused(INDEX, OPENED, x -> x.foundBy(0));
            refused(INDEX, NEW, x -> x.foundBy(0));
        });
        test(20, "without patterns it is none", () -> {
            for (int f = 0; f < STUCK; f++) is(BARE.built().foundBy(f), 0L);
        });
        test(20, "of 32 patterns the last one is 2 to the power of 31, and no less than 0", () -> {
            StuckatBench x = inputs(1);
            for (int p = 0; p < 31; p++) x.pattern(1, 0);
            x.pattern(1, 1);
            is(x.foundBy(0), 1L << 31);
            is(x.foundBy(1), (1L << 31) - 1);
            is(x.foundBy(x.slow(0, true)), 1L << 31);
        });
    }

    /** All that two lines can be, and at which of both a bridge is found, each by itself observed. */
    private static void bridged() {
        String[] rows = {"00", "01", "0?", "10", "11", "1?", "?0", "?1", "??"};
        String[] kinds = {"w", "u", "d"};
        String[][] due = {{"000100000", "010000000"}, {"010000000", "000100000"}, {"000000000", "010100000"}};
        for (int k = 0; k < 3; k++) {
            for (int at = 0; at < 2; at++) {
                char kind = kinds[k].charAt(0);
                String found = due[k][at];
                String text = "i i b0 b1 !" + (2 + at);
                test(19, "a bridge " + kind + " is found at its line " + at + " if it is 0 or 1 without it, and the other one with it", () -> {
                    StuckatBench x = net(text, rows);
                    int fault = x.bridge(kind, 0, 1);
                    for (int p = 0; p < rows.length; p++) {
                        for (char engine : "spd".toCharArray()) is(x.finds(fault, p, engine), found.charAt(p) == '1');
                    }
                    is(x.foundBy(fault), Long.parseLong(new StringBuilder(found).reverse().toString(), 2));
                    is(x.isImpossible(fault), found.indexOf('1') < 0);
                    if (found.indexOf('1') < 0) {
                        throwsIt(NO_ELEMENT, () -> x.make(fault));
                    } else {
                        is(row(x, x.make(fault), 2), rows[found.indexOf('1')]);
                    }
                });
            }
        }
    }

    private static void coverage() {
        test(21, "of 32 patterns the last one counts, and none behind it", () -> {
            for (char engine : "spd".toCharArray()) {
                StuckatBench x = inputs(1);
                while (x.patterns() < 32) x.pattern(1, 0);
                is(x.coverage(engine), 0.5f);
                StuckatBench y = inputs(1);
                while (y.patterns() < 31) y.pattern(1, 0);
                y.pattern(1, 1);
                is(y.coverage(engine), 1f);
                // Those that are gone, or merged into others, count no more.
                StuckatBench z = inputs(2, "01", "0?", "1?");
                is(z.coverage(engine), engine == 'd' ? 0.25f : 0.5f);
                is(z.merge(0, 1), 2);
                is(z.coverage(engine), engine == 'd' ? 0.25f : 0.5f);
                StuckatBench gone = net("i i b0 !2", "1?", "11", "1?");
                is(gone.turnAbout(), 1);
                gone.merge(0, gone.pattern(1, 1));
                is(gone.coverage(engine), engine == 'd' ? 0f : 0.25f);
            }
        });
        test(21, "there are three engines, and no other one", () -> {
            StuckatBench x = FOUR.built();
            for (char engine : signsBut("spd")) throwsIt(ILLEGAL, () -> x.coverage(engine));
            refused(ILLEGAL, FOUR, y -> y.coverage('q'));
        });
        test(21, "refused without classes", () -> {
            for (char engine : "spd".toCharArray()) {
                throwsIt(ARITHMETIC, () -> NEW.built().coverage(engine));
                refused(ARITHMETIC, OPENED, x -> x.coverage(engine));
            }
        });
        test(21, "no such engine comes ahead of no classes", () -> {
            refused(ILLEGAL, NEW, x -> x.coverage('q'));
            refused(ILLEGAL, OPENED, x -> x.coverage('q'));
        });
        test(21, "without patterns it is 0, with all found it is 1", () -> {
            for (char engine : "spd".toCharArray()) {
                is(BARE.built().coverage(engine), 0f);
                is(net(AND_OR, "110", "010", "100", "001").coverage(engine), 1f);
                is(inputs(1, "0", "1").coverage(engine), 1f);
                is(inputs(1, "0").coverage(engine), 0.5f);
            }
        });
        test(21, "the share is converted to float", () -> is(net("i b0 i !1 !2", "0?").coverage('s'), 0.25f));
        test(21, "by d, patterns with unknown values find nothing", () -> {
            StuckatBench x = net("i b0 i !1 !2", "0?", "1?");
            is(x.coverage('p'), 0.5f);
            is(x.coverage('d'), 0f);
            add(x, "01");
            is(x.coverage('d'), 0.5f);
            is(x.coverage('s'), 0.75f);
        });
    }

    // ---- promises 22 to 24

    private static void made() {
        test(22, "refused if there is no such fault", () -> {
            for (int fault : outside(FAULTS)) refused(INDEX, FOUR, x -> x.make(fault));
            refused(INDEX, OPENED, x -> x.make(0));
            refused(INDEX, NEW, x -> x.make(0));
        });
        test(22, "refused if it is slow, while a bridge is not", () -> {
            refused(ILLEGAL, FOUR, x -> x.make(SLOW));
            is(FOUR.built().make(BRIDGE), PATTERNS);
            is(FOUR.built().make(STUCK - 1), PATTERNS);
        });
        test(22, "refused if it is impossible", () -> {
            refused(NO_ELEMENT, SPARE, x -> x.make(0));
            refused(NO_ELEMENT, SPARE, x -> x.make(1));
            // Both lines of a bridge that have the same always.
            refused(NO_ELEMENT, () -> {
                StuckatBench x = net("i b0 b0 !1 !2");
                x.bridge('w', 1, 2);
                return x;
            }, x -> x.make(x.faults() - 1));
        });
        test(22, "the 32nd is made, the 33rd is refused", () -> {
            StuckatBench x = BARE.built();
            while (x.patterns() < 31) x.pattern(0, 0);
            is(x.make(8), 31);
            is(row(x, 31, 3), "001");
            throwsIt(STATE, () -> x.make(8));
            refused(STATE, FULL, y -> y.make(2));
        });
    }

    private static void madeOrder() {
        int slow = SPARE.built().faults() - 1;
        test(22, "no such fault comes ahead of 32 patterns", () -> refused(INDEX, FULL, x -> x.make(x.faults())));
        test(22, "slow comes ahead of 32 patterns", () -> refused(ILLEGAL, FULL, x -> x.make(slow)));
        test(22, "impossible comes ahead of 32 patterns", () -> refused(NO_ELEMENT, FULL, x -> x.make(0)));
    }

    private static void decisions() {
        test(22, "as soon as it is found, all others are unknown", () -> {
            is(rowMade(net("i i i b0 !3"), 1, 3), "0??");
            is(rowMade(net("i i i b0 !3"), 0, 3), "1??");
            is(rowMade(net("i i i b2 !3"), 4, 3), "001");
            is(rowMade(net("i i i b2 !3"), 5, 3), "000");
        });
        test(22, "the last decision that was 0 is 1 instead, until none was 0", () -> {
            is(rowMade(net("i i i a0,1 a3,2 !4"), 0, 3), "111");
            is(rowMade(net("i i i a0,1 a3,2 !4"), 2, 3), "111");
            is(rowMade(net("i i i o0,1 r3,2 !4"), 0, 3), "100");
        });
        test(22, "found by nothing decided, no source is known", () -> {
            StuckatBench x = SPARE.built();
            x.tie(0);
            x.testPoint(0);
            is(x.make(1), 2);
            is(row(x, 2, 2), "??");
        });
        test(22, "of 12 sources the last way may be the one", () -> {
            StuckatBench x = net("i i i i i i i i i i i i a0,1 a12,2 a13,3 a14,4 a15,5 a16,6 a17,7 a18,8 a19,9 a20,10 a21,11 !22");
            is(rowMade(x, 0, 12), "111111111111");
            is(x.known(0, true), 4095);
        });
    }

    private static String rowMade(StuckatBench x, int fault, int sources) {
        return row(x, x.make(fault), sources);
    }

    private static void impossible() {
        test(23, "refused if there is no such fault", () -> {
            for (int fault : outside(FAULTS)) refused(INDEX, FOUR, x -> x.isImpossible(fault));
            refused(INDEX, OPENED, x -> x.isImpossible(0));
        });
        test(23, "refused if it is slow, while a bridge is not", () -> {
            refused(ILLEGAL, FOUR, x -> x.isImpossible(SLOW));
            is(FOUR.built().isImpossible(BRIDGE), false);
        });
        test(23, "one way of all that finds it is enough", () -> {
            StuckatBench x = net("i i i i i i i i i i i i a0,1 a12,2 a13,3 a14,4 a15,5 a16,6 a17,7 a18,8 a19,9 a20,10 a21,11 !22");
            for (int f = 0; f < x.faults(); f++) is(x.isImpossible(f), false);
            is(x.ways(0), 1);
        });
        test(23, "none is impossible", () -> {
            is(SPARE.built().isImpossible(0), true);
            is(SPARE.built().isImpossible(1), true);
            is(SPARE.built().isImpossible(2), false);
            // What goes nowhere.
            is(net("i i !0").isImpossible(2), true);
            is(net("i i !0").isImpossible(3), true);
        });
    }

    private static void ties() {
        StuckatBench spare = SPARE.built();
        int slow = spare.faults() - 1;
        test(24, "refused if there is no such fault", () -> {
            for (int fault : outside(slow + 1)) refused(INDEX, SPARE, x -> x.tie(fault));
            refused(INDEX, OPENED, x -> x.tie(0));
        });
        test(24, "refused if it is a pin's, impossible ones, too", () -> {
            int pin = 0;
            while (spare.pinOf(pin) < 0 || !spare.isImpossible(pin)) pin++;
            int impossible = pin;
            refused(ILLEGAL, SPARE, x -> x.tie(impossible));
            pin = 0;
            while (spare.pinOf(pin) < 0 || spare.isImpossible(pin)) pin++;
            int possible = pin;
            refused(ILLEGAL, SPARE, x -> x.tie(possible));
        });
        test(24, "refused if it is another model", () -> {
            refused(ILLEGAL, SPARE, x -> x.tie(slow));
            refused(ILLEGAL, SPARE, x -> x.tie(slow - 1));
        });
        test(24, "refused if it is not impossible", () -> refused(UNSUPPORTED, SPARE, x -> x.tie(2)));
        test(24, "refused if one way alone finds it, the first of all or the last", () -> {
            throwsIt(UNSUPPORTED, () -> net("i i o0,1 !2").tie(5));
            throwsIt(UNSUPPORTED, () -> net("i i a0,1 !2").tie(4));
        });
        test(24, "refused if its line is tied, at either value", () -> {
            Scene tied = () -> {
                StuckatBench x = SPARE.built();
                is(x.tie(1), 1);
                return x;
            };
            refused(UNSUPPORTED, tied, x -> x.tie(0));
            refused(UNSUPPORTED, tied, x -> x.tie(1));
        });
        test(24, "no stem's fault comes ahead of a tied line", () -> {
            // 3 = 0 and 1, whose first pin has a place; all that 0 and 3 are is of no meaning.
            Scene tied = () -> {
                StuckatBench x = net("i i v0 a0,1 v1 !4");
                int stem = 0;
                while (x.lineOf(stem) != 3) stem++;
                is(x.tie(stem), 1);
                return x;
            };
            StuckatBench x = tied.built();
            int pin = 0;
            while (x.lineOf(pin) != 3 || x.pinOf(pin) != 0) pin++;
            int impossible = pin;
            refused(ILLEGAL, tied, y -> y.tie(impossible));
        });
        test(24, "returns how many are tied, up to all", () -> {
            StuckatBench x = net("i i i i !3");
            is(x.tie(0), 1);
            is(x.tie(3), 2);
            throwsIt(UNSUPPORTED, () -> x.tie(6));
            is(x.tie(4), 3);
        });
    }

    private static void tiedRuns() {
        test(24, "the line is the value at which it is stuck from then on, in all runs", () -> {
            StuckatBench x = SPARE.built();
            is(x.value(1, 0), 1);
            x.tie(0);
            is(x.value(1, 0), 0);
            is(x.value(1, 2), 1);
            is(x.faulty(1, 0, 2), 0);
            is(x.weight(0), 0);
            is(x.weight(2), 4);
            StuckatBench y = SPARE.built();
            y.tie(1);
            is(y.value(0, 0), 1);
            is(y.value(0, 2), 0);
            is(y.weight(0), 4);
        });
        test(24, "a fault at its stem takes the place of that", () -> {
            StuckatBench x = SPARE.built();
            x.tie(0);
            is(x.faulty(1, 0, 1), 1);
            is(x.faulty(1, 2, 1), 0);
            is(x.faulty(1, 0, 0), 0);
        });
    }

    // ---- promises 25 to 31

    private static void merges() {
        Scene scene = () -> {
            StuckatBench x = inputs(3, "1??", "01?", "?10", "??1");
            x.setTime(0, 5);
            x.setTime(2, 7);
            return x;
        };
        test(25, "refused if there is no such first pattern", () -> {
            for (int pattern : outside(4)) refused(INDEX, scene, x -> x.merge(pattern, 0));
            refused(INDEX, NEW, x -> x.merge(0, 0));
            refused(INDEX, BARE, x -> x.merge(0, 0));
        });
        test(25, "refused if there is no such second pattern", () -> {
            for (int pattern : outside(4)) refused(INDEX, scene, x -> x.merge(0, pattern));
        });
        test(25, "refused if both are the same", () -> {
            refused(UNSUPPORTED, scene, x -> x.merge(0, 0));
            refused(UNSUPPORTED, scene, x -> x.merge(3, 3));
        });
        test(25, "refused if they cannot be merged", () -> {
            refused(UNSUPPORTED, scene, x -> x.merge(0, 1));
            refused(UNSUPPORTED, scene, x -> x.merge(1, 0));
            refused(UNSUPPORTED, scene, x -> x.merge(2, 3));
        });
        test(25, "no such pattern comes ahead of both being the same", () -> refused(INDEX, scene, x -> x.merge(4, 4)));
        test(25, "what is known in both, and what is known in none", () -> {
            StuckatBench x = inputs(3, "01?", "01?");
            is(x.merge(0, 1), 1);
            is(row(x, 0, 3), "01?");
            StuckatBench y = inputs(2, "??", "??");
            is(y.merge(1, 0), 1);
            is(row(y, 0, 2), "??");
        });
        test(25, "the first and the last can be, and later ones move up", () -> {
            StuckatBench x = scene.built();
            is(x.merge(0, 3), 3);
            is(row(x, 0, 3) + row(x, 1, 3) + row(x, 2, 3), "1?101??10");
            StuckatBench y = scene.built();
            is(y.merge(3, 0), 3);
            is(row(y, 0, 3) + row(y, 1, 3) + row(y, 2, 3), "01??101?1");
        });
        test(25, "of 32 patterns each one can be the second one", () -> {
            for (int k = 1; k < 32; k++) {
                StuckatBench x = inputs(5);
                for (int p = 0; p < 32; p++) x.pattern(p == 0 ? 0 : 31, p);
                is(x.merge(0, k), 31);
                is(x.known(0, true), k);
                for (int p = 1; p < 31; p++) is(x.known(p, true), p < k ? p : p + 1);
                throwsIt(INDEX, () -> x.known(31, true));
                is(x.pattern(31, 31), 31);
            }
        });
        test(25, "the time is that of the first one", () -> {
            StuckatBench x = scene.built();
            x.merge(2, 0);
            is(x.setTime(1, 1), 7);
            is(x.setTime(0, 1), 1);
            StuckatBench y = scene.built();
            y.merge(0, 2);
            is(y.setTime(0, 1), 5);
            is(y.setTime(2, 1), 1);
        });
    }

    private static void mergesOfAll() {
        test(26, "without patterns, and with one", () -> {
            is(NEW.built().mergeAll(), 0);
            is(BARE.built().mergeAll(), 0);
            is(inputs(2, "0?").mergeAll(), 1);
        });
        test(26, "all 32 into one, or none into any", () -> {
            StuckatBench x = inputs(5, "1????");
            while (x.patterns() < 32) x.pattern(16, 16);
            is(x.mergeAll(), 1);
            is(row(x, 0, 5), "1???1");
            StuckatBench y = inputs(5);
            for (int p = 0; p < 32; p++) y.pattern(31, p);
            is(y.mergeAll(), 32);
            is(y.known(31, true), 31);
        });
        test(26, "into the first one ahead that is left, by what it knows by then", () -> {
            StuckatBench x = inputs(2, "1?", "?0", "?1", "0?");
            x.setTime(2, 8);
            is(x.mergeAll(), 2);
            is(row(x, 0, 2) + row(x, 1, 2), "1001");
            is(x.setTime(1, 1), 8);
        });
    }

    private static void turnedAbout() {
        test(27, "without patterns, and with those that find nothing", () -> {
            is(NEW.built().turnAbout(), 0);
            is(BARE.built().turnAbout(), 0);
            is(net(AND_OR, "???", "1??").turnAbout(), 0);
        });
        test(27, "the last one is left if it finds a class at all", () -> {
            is(inputs(1, "0").turnAbout(), 1);
            StuckatBench x = inputs(1, "0", "1", "0", "1");
            x.setTime(3, 4);
            is(x.turnAbout(), 2);
            is(row(x, 0, 1) + row(x, 1, 1), "01");
            is(x.setTime(1, 1), 4);
        });
        test(27, "of 32 all may be left, or the last one alone", () -> {
            StuckatBench x = inputs(1);
            while (x.patterns() < 32) x.pattern(1, 0);
            is(x.turnAbout(), 1);
            // Each source of its own: every pattern finds one class that no other one finds.
            StuckatBench y = net("i i i i i i i i i i i i !0 !1 !2 !3 !4 !5 !6 !7 !8 !9 !10 !11");
            for (int k = 0; k < 12; k++) y.pattern(1 << k, 0);
            for (int k = 0; k < 12; k++) y.pattern(1 << k, 1 << k);
            is(y.turnAbout(), 24);
        });
        test(27, "other models are no classes", () -> {
            // 01 and 10 find the bridge, 10 what is slow to rise, and no class that 00 and 11 do not.
            StuckatBench x = net("i i b0 b1 !2 !3", "01", "10", "00", "11");
            int bridge = x.bridge('w', 0, 1);
            int slow = x.slow(0, true);
            is(x.foundBy(bridge), 3L);
            is(x.foundBy(slow), 2L + 8);
            is(x.turnAbout(), 2);
            is(row(x, 0, 2) + row(x, 1, 2), "0011");
        });
    }

    private static void fills() {
        Scene scene = () -> inputs(4, "?1??", "0101", "????");
        test(28, "refused if there is no such pattern", () -> {
            for (int pattern : outside(3)) refused(INDEX, scene, x -> x.fill(pattern, 'z'));
            refused(INDEX, NEW, x -> x.fill(0, 'z'));
        });
        test(28, "there are three ways, and no other one", () -> {
            StuckatBench x = scene.built();
            for (char how : signsBut("zoa")) throwsIt(ILLEGAL, () -> x.fill(0, how));
            refused(ILLEGAL, scene, y -> y.fill(0, '0'));
            refused(ILLEGAL, scene, y -> y.fill(1, 'q'));
            is(x.fill(0, 'a'), 3);
        });
        test(28, "no such pattern comes ahead of no such way", () -> refused(INDEX, scene, x -> x.fill(3, 'q')));
        test(28, "none is unknown, or all are", () -> {
            for (char how : "zoa".toCharArray()) {
                StuckatBench x = scene.built();
                is(x.fill(1, how), 0);
                is(row(x, 1, 4), "0101");
                is(x.fill(2, how), 4);
                is(row(x, 2, 4), how == 'o' ? "1111" : "0000");
                is(x.fill(2, 'o'), 0);
                is(x.known(2, false), 15);
            }
        });
        test(28, "what the source ahead has, 0 for those ahead of all known ones", () -> {
            StuckatBench x = inputs(5, "??1??", "1?0?1");
            is(x.fill(0, 'a'), 4);
            is(row(x, 0, 5), "00111");
            is(x.fill(1, 'a'), 2);
            is(row(x, 1, 5), "11001");
        });
        test(28, "the last of 12 sources is filled, and none behind it", () -> {
            StuckatBench x = inputs(12, "???????????1", "????????????");
            is(x.fill(0, 'o'), 11);
            is(x.known(0, true), 4095);
            is(x.fill(1, 'o'), 12);
            is(x.known(1, false), 4095);
        });
    }

    private static void powers() {
        Scene scene = () -> inputs(4, "0110", "?01?");
        test(29, "refused if there is no such pattern", () -> {
            is(scene.built().power(1), 2);
            for (int pattern : outside(2)) refused(INDEX, scene, x -> x.power(pattern));
            refused(INDEX, NEW, x -> x.power(0));
        });
        test(29, "sources alone count, of 40 lines, too", () -> {
            StuckatBench x = open("i i i i i i i i i i i i !0");
            for (int k = 12; k < 40; k++) x.gate('v', k - 1, 0);
            x.close();
            add(x, "101010101010");
            add(x, "100000000000");
            is(x.power(0), 66);
            is(x.power(1), 1);
        });
        test(29, "none are unlike, or all of 12 are", () -> {
            StuckatBench x = inputs(12, "010101010101", "101010101010", "000000000000", "????????????", "000000000001",
                "011111111111");
            int[] due = {66, 66, 0, 0, 11, 1};
            for (int p = 0; p < 6; p++) is(x.power(p), due[p]);
            is(inputs(1, "1").power(0), 0);
        });
        test(29, "both are known, neither one alone", () -> {
            StuckatBench x = inputs(4, "1?0?", "?1?0", "0?1?");
            for (int p = 0; p < 3; p++) is(x.power(p), 0);
        });
    }

    private static void counts() {
        test(30, "0 at first, 32 at most", () -> {
            is(NEW.built().patterns(), 0);
            is(OPENED.built().patterns(), 0);
            is(FULL.built().patterns(), 32);
        });
        test(31, "refused if there is no such pattern", () -> {
            is(FOUR.built().known(PATTERNS - 1, true), 4);
            for (int pattern : outside(PATTERNS)) {
                refused(INDEX, FOUR, x -> x.known(pattern, true));
                refused(INDEX, FOUR, x -> x.known(pattern, false));
            }
            refused(INDEX, NEW, x -> x.known(0, false));
            is(FULL.built().known(31, false), 3);
            throwsIt(INDEX, () -> FULL.built().known(32, false));
        });
        test(31, "none or all of 12 sources", () -> {
            StuckatBench x = inputs(12, "????????????", "111111111111", "000000000000");
            is(x.known(0, false), 0);
            is(x.known(0, true), 0);
            is(x.known(1, false), 4095);
            is(x.known(1, true), 4095);
            is(x.known(2, false), 4095);
            is(x.known(2, true), 0);
        });
    }

    // ---- promises 32 to 36

    private static void rings() {
        Scene scene = () -> {
            StuckatBench x = inputs(5, "10110", "01???");
            x.setRing(5, 20);
            return x;
        };
        test(32, "2 to 16 bits", () -> {
            is(scene.built().setRing(2, 2), 2);
            is(scene.built().setRing(16, 1 << 15), 16);
            for (int bits : outside(2, 16)) refused(ILLEGAL, scene, x -> x.setRing(bits, 1));
            throwsIt(ILLEGAL, () -> scene.built().setRing(0, 1));
        });
        test(32, "at least one tap, and no other bits than there are", () -> {
            for (int bits = 2; bits <= 16; bits++) {
                int all = bits;
                is(scene.built().setRing(bits, 1), 0);
                is(scene.built().setRing(bits, (1 << bits) - 1), bits + 1);
                throwsIt(ILLEGAL, () -> scene.built().setRing(all, 0));
                throwsIt(ILLEGAL, () -> scene.built().setRing(all, 1 << all));
            }
            for (int taps : outside(1, 15)) refused(ILLEGAL, scene, x -> x.setRing(4, taps));
            refused(ILLEGAL, scene, x -> x.setRing(16, 65536));
            refused(ILLEGAL, scene, x -> x.setRing(4, 17));
        });
        test(32, "0 if it never comes to 1 again", () -> {
            // Without a tap at the last bit the 1 that leaves it does not come back.
            is(scene.built().setRing(4, 4), 0);
            is(scene.built().setRing(4, 7), 0);
            is(scene.built().setRing(2, 1), 0);
            is(scene.built().setRing(16, 1 << 14), 0);
        });
        test(32, "as many steps as there are rings but 0, or as few as bits", () -> {
            is(scene.built().setRing(2, 3), 3);
            is(scene.built().setRing(16, 0xB400), 65535);
            is(scene.built().setRing(15, 1 << 14), 15);
        });
        test(32, "in a step the last bit is gone", () -> {
            StuckatBench x = net("i i !0 !1", "01", "00", "00");
            x.setRing(2, 1);
            // 2, then 0 without a tap at the bit 1, then 0.
            is(x.signature(-1), 0);
            x.setRing(2, 2);
            is(x.signature(-1), 2);
        });
    }

    private static void seeds() {
        test(33, "refused if there is no such pattern", () -> {
            for (int pattern : outside(PATTERNS)) refused(INDEX, FOUR, x -> x.seedFor(pattern));
            refused(INDEX, NEW, x -> x.seedFor(0));
            refused(INDEX, BARE, x -> x.seedFor(0));
        });
        test(33, "refused if there is none", () -> {
            // Four bits that go round give the fifth source what the first one has.
            Scene scene = () -> {
                StuckatBench x = inputs(5, "10000", "00001");
                x.setRing(4, 8);
                return x;
            };
            refused(NO_ELEMENT, scene, x -> x.seedFor(0));
            refused(NO_ELEMENT, scene, x -> x.seedFor(1));
            // With a tap at the bit 0 alone all is as the bit 0 is.
            StuckatBench y = inputs(2, "01", "11", "00");
            y.setRing(2, 1);
            throwsIt(NO_ELEMENT, () -> y.seedFor(0));
            is(y.seedFor(1), 1);
            is(y.seedFor(2), 0);
        });
        test(33, "from 0, which is for what is not known, or not 1", () -> {
            is(inputs(3, "???").seedFor(0), 0);
            is(inputs(3, "000").seedFor(0), 0);
            is(inputs(3, "?0?").seedFor(0), 0);
        });
        test(33, "sources alone are pressed, of 40 lines, too", () -> {
            // 4 brings in a 1 first; behind 33 steps, as behind 3, a 0 comes in.
            StuckatBench x = closed(rowOf(40));
            add(x, "1");
            is(x.seedFor(0), 4);
            StuckatBench y = open("i i i i i i i i i i i i !0");
            for (int k = 12; k < 40; k++) y.gate('v', k - 1, 0);
            y.close();
            add(y, "1???????????");
            is(y.seedFor(0), 4);
        });
        test(33, "up to all bits of 16", () -> {
            StuckatBench x = inputs(12, "111111111111", "???????????1", "1???????????");
            x.setRing(16, 1 << 15);
            is(x.seedFor(0), 0xFFF0);
            is(x.seedFor(1), 16);
            is(x.seedFor(2), 1 << 15);
            x.setRing(12, 1 << 11);
            is(x.seedFor(0), 4095);
        });
    }

    private static void signatures() {
        test(34, "-1 for none, and no other number below 0", () -> {
            is(FOUR.built().signature(-1) >= 0, true);
            refused(INDEX, FOUR, x -> x.signature(-2));
            refused(INDEX, FOUR, x -> x.signature(MIN));
        });
        test(34, "refused if there is no such fault", () -> {
            refused(INDEX, FOUR, x -> x.signature(FAULTS));
            refused(INDEX, FOUR, x -> x.signature(MAX));
            refused(INDEX, NEW, x -> x.signature(0));
            refused(INDEX, OPENED, x -> x.signature(0));
        });
        test(34, "refused if it is no stuck fault", () -> {
            refused(ILLEGAL, FOUR, x -> x.signature(BRIDGE));
            refused(ILLEGAL, FOUR, x -> x.signature(SLOW));
            is(FOUR.built().signature(STUCK - 1) >= 0, true);
        });
        test(34, "without patterns it is 0, ahead of a closed net, too", () -> {
            is(NEW.built().signature(-1), 0);
            is(OPENED.built().signature(-1), 0);
            is(BARE.built().signature(-1), 0);
            is(BARE.built().signature(9), 0);
        });
        test(34, "unknown ones do not turn", () -> {
            is(net("i i !0 !1", "??").signature(-1), 0);
            is(net("i i !0 !1", "?1").signature(-1), 2);
            is(net("i i !0 !1", "?1").signature(0), 2);
            is(net("i i !0 !1", "?1").signature(1), 3);
        });
        test(34, "a line that comes to be known by a fault turns, one that comes to be unknown does not", () -> {
            StuckatBench x = net("i i a0,1 v2 !3", "1?");
            is(x.signature(-1), 0);
            is(x.signature(0), 1);
            StuckatBench y = net("i i a0,1 v2 !3", "0?");
            is(y.signature(-1), 1);
            is(y.signature(1), 0);
        });
        test(34, "the line j turns the bit j modulo its bits", () -> {
            StuckatBench x = net("i i i i !0 !1 !2 !3", "0010");
            x.setRing(2, 2);
            is(x.signature(-1), 1);
            x.setRing(3, 4);
            is(x.signature(-1), 4);
            StuckatBench y = net("i i i i !0 !1 !2 !3", "1010");
            y.setRing(2, 2);
            is(y.signature(-1), 0);
            StuckatBench z = net("i i i i !0 !1 !2 !3", "0001");
            z.setRing(3, 4);
            is(z.signature(-1), 1);
            StuckatBench all = rowOf(40);
            for (int k = 1; k < 40; k++) all.output(k);
            all.close();
            add(all, "1");
            all.setRing(16, 1);
            // The lines 0 to 31 turn each bit twice, those from 32 on the lowest eight once more.
            is(all.signature(-1), 255);
        });
        test(35, "without classes or patterns there is none", () -> {
            is(NEW.built().aliased(), 0);
            is(OPENED.built().aliased(), 0);
            is(BARE.built().aliased(), 0);
        });
        test(35, "a class that no pattern finds is none of them", () -> {
            StuckatBench x = inputs(1, "1");
            is(x.signature(1), x.signature(-1));
            is(x.aliased(), 0);
            StuckatBench y = net("i b0 b0 b0 !1 !3", "1");
            y.setRing(2, 2);
            is(y.aliased(), 0);
            StuckatBench z = net("i b0 b0 b0 !1 !2 !3 !0", "1");
            z.setRing(2, 2);
            is(z.signature(0), z.signature(-1));
            is(z.aliased(), 1);
        });
    }

    private static void aliased() {
        test(35, "other models are no classes", () -> {
            // Of a ring of two the lines 2 and 4 turn the same bit: both turned over are none.
            StuckatBench x = net("i i b0 b1 b0 !2 !3 !4", "10");
            x.setRing(2, 2);
            is(x.signature(0), x.signature(-1));
            is(x.aliased(), 1);
            is(x.foundBy(x.bridge('d', 1, 0)), 1L);
            is(x.aliased(), 1);
            x.slow(0, true);
            is(x.aliased(), 1);
        });
    }

    private static void chances() {
        test(36, "a seed of 0 to 65535", () -> {
            is(BARE.built().chance(0, 1), 1);
            is(BARE.built().chance(65535, 1), BARE.built().chance(15, 1));
            for (int seed : outside(0, 65535)) refused(ILLEGAL, BARE, x -> x.chance(seed, 1));
        });
        test(36, "1 to 200 patterns", () -> {
            is(BARE.built().chance(0, 200), 1);
            for (int many : outside(1, 200)) refused(ILLEGAL, BARE, x -> x.chance(5, many));
        });
        test(36, "refused as the net is not closed", () -> {
            refused(UNSUPPORTED, OPENED, x -> x.chance(5, 1));
            refused(UNSUPPORTED, NEW, x -> x.chance(0, 200));
        });
        test(36, "a number out of range comes ahead of a net that is not closed", () -> {
            refused(ILLEGAL, OPENED, x -> x.chance(65536, 1));
            refused(ILLEGAL, OPENED, x -> x.chance(0, 0));
            throwsIt(ILLEGAL, () -> NEW.built().chance(-1, 1));
            throwsIt(ILLEGAL, () -> NEW.built().chance(0, 201));
        });
        test(36, "of a seed the lowest bits are taken", () -> {
            for (int seed = 0; seed < 16; seed++) {
                is(BARE.built().chance(seed + 16, 3), BARE.built().chance(seed, 3));
                is(BARE.built().chance(seed + 65520, 3), BARE.built().chance(seed, 3));
            }
            StuckatBench x = inputs(1);
            x.setRing(16, 1 << 15);
            is(x.chance(32768, 1), 1);
            is(x.chance(32768, 2), 2);
            is(x.chance(16384, 1), 1);
        });
        test(36, "up to the last pattern of many", () -> {
            // The only bit of 16 that is 1 comes to the source 0 as the pattern 16 is taken.
            StuckatBench x = inputs(1);
            x.setRing(16, 1 << 15);
            is(x.chance(1, 15), 1);
            is(x.chance(1, 16), 2);
            // With as many sources as bits each one has the same always.
            StuckatBench y = inputs(2);
            y.setRing(2, 2);
            is(y.chance(2, 200), 1);
            // Three bits over two sources: the pattern 1 is the first one with a 1 at the source 0.
            y.setRing(3, 4);
            is(y.chance(1, 1), 1);
            is(y.chance(1, 2), 2);
        });
    }

    private static void longChances() {
        test(36, "each pattern goes on with the ring as it is, up to the 200th", () -> {
            // The and of eight sources is 1 by one pattern of 256; some seed has it first as the k-th.
            StuckatBench x = net("i i i i i i i i a0,1 a8,2 a9,3 a10,4 a11,5 a12,6 a13,7 !14");
            x.setRing(16, 0xB400);
            int[] places = {1, 2, 3, 32, 33, 63, 64, 65, 66, 127, 128, 129, 130, 191, 192, 193, 194, 199, 200};
            for (int place : places) {
                int seed = seedWithOnesAt(place);
                if (place > 1) is(x.chance(seed, place) > x.chance(seed, place - 1), true);
                is(x.chance(seed, place) >= 1, true);
            }
        });
    }

    private static int seedWithOnesAt(int place) {
        for (int seed = 1; seed < 65536; seed++) {
            int ring = seed;
            int first = 0;
            for (int p = 1; p <= place && first == 0; p++) {
                int ones = 0;
                for (int k = 0; k < 8; k++) {
                    ring = (ring << 1 | Integer.bitCount(ring & 0xB400) & 1) & 0xFFFF;
                    ones |= (ring & 1) << k;
                }
                if (ones == 255) first = p;
            }
            if (first == place) return seed;
        }
        return 0;
    }

    // ---- promises 37 to 39, and 70

    private static void weights() {
        test(37, "refused if there is no such line", () -> {
            for (int line : outside(LINES)) refused(INDEX, BARE, x -> x.weight(line));
            is(BARE.built().weight(LINES - 1), 5);
        });
        test(37, "refused as the net is not closed", () -> refused(UNSUPPORTED, OPENED, x -> x.weight(0)));
        test(37, "no such line comes ahead of a net that is not closed", () -> {
            refused(INDEX, OPENED, x -> x.weight(LINES));
            refused(INDEX, NEW, x -> x.weight(0));
        });
        test(37, "by no values, or by all", () -> {
            StuckatBench x = net("i x0,0 v1 !2");
            is(x.weight(1), 0);
            is(x.weight(2), 2);
            for (int many = 1; many <= 12; many++) {
                StuckatBench y = net("i ".repeat(many) + "x0,0 v" + many + " !0");
                is(y.weight(many), 0);
                is(y.weight(many + 1), 1 << many);
                is(y.weight(many - 1), 1 << many - 1);
            }
        });
    }

    private static void ways() {
        test(38, "refused if there is no such fault", () -> {
            for (int fault : outside(FAULTS)) refused(INDEX, FOUR, x -> x.ways(fault));
            refused(INDEX, OPENED, x -> x.ways(0));
        });
        test(38, "refused if it is no stuck fault", () -> {
            refused(ILLEGAL, FOUR, x -> x.ways(BRIDGE));
            refused(ILLEGAL, FOUR, x -> x.ways(SLOW));
            is(FOUR.built().ways(STUCK - 1), 3);
        });
        test(38, "none, or all", () -> {
            is(SPARE.built().ways(0), 0);
            StuckatBench x = net("i x0,0 !1");
            int stem = 0;
            while (x.lineOf(stem) != 1) stem++;
            is(x.ways(stem), 0);
            is(x.ways(stem + 1), 2);
            for (int many = 1; many <= 12; many++) {
                StuckatBench y = net("i ".repeat(many) + "x0,0 !" + many);
                is(y.ways(2 * many), 0);
                is(y.ways(2 * many + 1), 1 << many);
            }
        });
    }

    private static void hardest() {
        test(39, "refused without classes", () -> {
            refused(NO_ELEMENT, NEW, x -> x.hardest());
            refused(NO_ELEMENT, OPENED, x -> x.hardest());
        });
        test(39, "not one with none, though these are the fewest", () -> {
            is(SPARE.built().ways(0), 0);
            is(SPARE.built().hardest() > 1, true);
            // The line 0 goes nowhere.
            is(net("i i !1").hardest(), 2);
        });
        test(39, "of several the lowest one", () -> {
            is(inputs(1).hardest(), 0);
            is(net("i i a0,1 !2").hardest(), 0);
            is(net("i i o0,1 !2").hardest(), 0);
            // 1 is found by all, 2 to 5 by a half.
            is(net("i x0,0 i i !1 !2 !3").hardest() > 2, true);
        });
        test(39, "counted anew each time", () -> {
            StuckatBench x = net("i i r1,0 a0,2 !3");
            is(x.hardest(), 6);
            is(x.hardest(), 6);
            x.testPoint(0);
            is(x.hardest(), 6);
        });
        test(39, "of more than six sources each value counts once", () -> {
            // Not 0 and all others: its first classes are found where 0 is 0, or where 0 is 1.
            StuckatBench x = net("i i i i i i i v0 a7,1 a8,2 a9,3 a10,4 a11,5 a12,6 !13");
            is(x.ways(0), 1);
            is(x.hardest(), 0);
            StuckatBench y = net("i i i i i i i v0 a7,1 a8,2 a9,3 a10,4 a11,5 a12,6 !13 !0");
            is(y.ways(0), 64);
            is(y.ways(2), 1);
            is(y.hardest(), 2);
            StuckatBench z = net("i i i i i i i i i i i i a0,1 a12,2 a13,3 a14,4 a15,5 a16,6 a17,7 a18,8 a19,9 a20,10 a21,11 !22 !0");
            is(z.ways(0), 2048);
            is(z.ways(2), 1);
            is(z.hardest(), 2);
        });
        test(39, "none of all that have some has fewer", () -> {
            StuckatBench x = net("i i x0,1 i a2,3 b4 !2 !5 !0 !1 !3 !4");
            int best = x.hardest();
            for (int f = 0; f < x.faults(); f++) is(x.ways(f) == 0 || x.ways(f) >= x.ways(best), true);
        });
    }

    private static void means() {
        test(70, "refused without classes", () -> {
            refused(ARITHMETIC, NEW, x -> x.meanFound());
            refused(ARITHMETIC, OPENED, x -> x.meanFound());
        });
        test(70, "without patterns it is 0", () -> is(BARE.built().meanFound(), 0.0));
        test(70, "with 32 patterns of one line it is a half of them", () -> {
            StuckatBench x = inputs(1);
            while (x.patterns() < 32) x.pattern(1, x.patterns() & 1);
            is(x.meanFound(), 16.0);
        });
        test(70, "the division is that of doubles", () -> is(net("i i x0,1 !2", "00").meanFound(), 0.5));
        test(70, "other models do not count", () -> {
            StuckatBench x = net("i i x0,1 !2", "00", "11");
            double before = x.meanFound();
            x.bridge('w', 0, 1);
            x.slow(0, true);
            is(x.meanFound(), before);
        });
    }
}
