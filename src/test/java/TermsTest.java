/**
 * The document's "Terms" from the first line on: each sentence has a test that bears its own words, and
 * what no test has is told as a fault.
 */
public final class TermsTest extends Checks {
    // Broken at the cell k, the cells 1 and 2 still take what is unlike the cell ahead of them.
    private static final String UNLIKE = "f f f i v0 v1 d0=3 d1=4 d2=5";
    private static final String APART = "i i b0 b1 !2 !3";

    private static String terms;
    private static boolean[] held;

    public static void main(String[] args) {
        String text = document();
        text = text.substring(text.indexOf("## Terms") + "## Terms".length(), text.indexOf("## Promise 1:"));
        terms = text.replaceAll(" *<h2>[^<]*</h2> *", " ");
        held = new boolean[terms.length()];
        found();
        lines();
        closedNets();
        places();
        added();
        likes();
        classes();
        findings();
        engines();
        decisions();
        ties();
        merges();
        fills();
        rings();
        seeds();
        counts();
        chips();
        candidates();
        chains();
        suspects();
        order();
        memories();
        marches();
        repairs();
        boards();
        cores();
        exceptions();
        allHeld();
        end();
    }

    private static void says(int promise, String words, Runnable body) {
        test(promise, "\"" + words + "\"", body);
        int at = terms.indexOf(words);
        is(at >= 0, true);
        for (int k = at; at >= 0 && k < at + words.length(); k++) held[k] = true;
    }

    private static void allHeld() {
        StringBuilder left = new StringBuilder();
        for (int k = 0; k < held.length; k++) left.append(held[k] ? '|' : terms.charAt(k));
        promise = 0;
        sentence = ", sentences without a test";
        is(left.toString().replaceAll("[| ]+", " ").trim(), "");
    }

    // ---- nets

    private static void found() {
        says(19, "A fault that is told found differs at an output, and one told impossible does by no input.", () -> {
            StuckatBench x = net(REDUNDANT, "00", "01", "10", "11");
            for (int f = 0; f < x.faults(); f++) {
                boolean isEver = false;
                for (int p = 0; p < 4; p++) {
                    boolean isUnlike = x.faulty(p, 6, f) != x.value(p, 6);
                    is(x.finds(f, p, 's'), isUnlike);
                    isEver |= isUnlike;
                }
                is(x.isImpossible(f), !isEver);
            }
        });
    }

    private static void lines() {
        says(4, "At most 40 lines are numbered from 0: an input 'i';", () -> {
            StuckatBench x = new StuckatBench();
            is(x.input(), 0);
            for (int k = 1; k < 40; k++) is(x.gate('v', k - 1, 0), k);
            throwsIt(STATE, () -> x.gate('v', 0, 0));
            throwsIt(STATE, () -> x.input());
            throwsIt(STATE, () -> x.cell());
        });
        says(48, "a cell 'f', which holds a value and takes that of a line, its data, as a chip is clocked;", () -> {
            StuckatBench x = net("i f v0 d1=2 !1", "01", "10");
            is("" + x.value(0, 1) + x.seen(0, 0), "11");
            is("" + x.value(1, 1) + x.seen(1, 0), "00");
            StuckatBench y = net("i f v0 d1=0 !1", "01", "10");
            is("" + y.value(0, 1) + y.seen(0, 0) + y.value(1, 1) + y.seen(1, 0), "1001");
        });
        says(4, "a gate, 'a' and, 'o' or, 'n' not and, 'r' not or, 'x' unlike, of two lines,", () -> {
            is(given("a0,1 o0,1 n0,1 r0,1 x0,1", "00"), "00110");
            is(given("a0,1 o0,1 n0,1 r0,1 x0,1", "01"), "01101");
            is(given("a0,1 o0,1 n0,1 r0,1 x0,1", "10"), "01101");
            is(given("a0,1 o0,1 n0,1 r0,1 x0,1", "11"), "11000");
        });
        says(4, "'b' the same, 'v' not, of one, all of lower numbers.", () -> {
            is(given("b0 v0 b1 v1", "01"), "0110");
            is(given("b0 v0 b1 v1", "10"), "1001");
            for (char kind : "aonrxbv".toCharArray()) throwsIt(INDEX, () -> open("i i").gate(kind, 2, 0));
            for (char kind : "aonrx".toCharArray()) throwsIt(INDEX, () -> open("i i").gate(kind, 0, 2));
        });
        says(9, "Inputs and cells are the sources, 12 at most, numbered by rising lines, the source 0 first.", () -> {
            StuckatBench x = net("i v0 f b2 i d2=0 !1", "01?");
            is("" + x.value(0, 0) + x.value(0, 1) + x.value(0, 2) + x.value(0, 3) + x.value(0, 4), "01112");
            throwsIt(ILLEGAL, () -> x.pattern(8, 0));
            StuckatBench y = open("i f i f i f i f i f i f");
            throwsIt(STATE, () -> y.input());
            throwsIt(STATE, () -> y.cell());
        });
    }

    private static String given(String gates, String sources) {
        StuckatBench x = net("i i " + gates + " !0", sources);
        StringBuilder text = new StringBuilder();
        for (int k = 0; k < gates.split(" ").length; k++) text.append(x.value(0, k + 2));
        return text.toString();
    }

    private static void closedNets() {
        says(8, "Observed are the lines marked as outputs, those marked as test points, and the data of cells, "
            + "a line that is several of them once.", () -> {
            StuckatBench x = net("i f v0 b1 d1=2 !2 !3", "01");
            is(x.testPoint(2), 2);
            is(x.testPoint(3), 2);
            is(x.testPoint(0), 3);
            // The lines 0, 2 and 3 are 0, 1 and 1.
            is(x.signature(-1), 6);
            is(x.testPoint(1), 4);
        });
        says(10, "Values are 0, 1 and 2, which is not known: a gate gives what it gives for all that its unknown "
            + "ones can be, each by itself.", () -> {
            is(given("a0,1 o0,1 n0,1 r0,1 x0,1 b1 v1", "0?"), "0212222");
            is(given("a0,1 o0,1 n0,1 r0,1 x0,1 b1 v1", "1?"), "2120222");
            is(given("a0,0 o0,0 n0,0 r0,0 x0,0", "?0"), "22222");
        });
        says(7, "When the net is closed, which it can be if each cell has data and something is observed, lines, data "
            + "and outputs stay.", () -> {
            throwsIt(UNSUPPORTED, () -> open("i f f d1=0 !0").close());
            throwsIt(UNSUPPORTED, () -> open("i v0").close());
            StuckatBench x = net("i f v0 d1=2 !1");
            throwsIt(UNSUPPORTED, () -> x.input());
            throwsIt(UNSUPPORTED, () -> x.cell());
            throwsIt(UNSUPPORTED, () -> x.gate('v', 0, 0));
            throwsIt(UNSUPPORTED, () -> x.data(1, 0));
            throwsIt(UNSUPPORTED, () -> x.output(0));
        });
        says(9, "A pattern gives the sources 0, 1 or 2. At most 32 patterns are numbered from 0.", () -> {
            StuckatBench x = inputs(3, "01?");
            is("" + x.value(0, 0) + x.value(0, 1) + x.value(0, 2), "012");
            for (int p = 1; p < 32; p++) is(x.pattern(0, 0), p);
            throwsIt(STATE, () -> x.pattern(0, 0));
        });
        says(9, "It is told by two sums of 2 to the power of sources: those that are known, and those that are 1.", () -> {
            StuckatBench x = inputs(3);
            is(x.pattern(5, 4), 0);
            is("" + x.value(0, 0) + x.value(0, 1) + x.value(0, 2), "021");
            is(x.known(0, false), 5);
            is(x.known(0, true), 4);
        });
    }

    // ---- faults

    private static void places() {
        says(7, "The places of stuck faults are: each line, by rising numbers, its stem, then, if it is a gate, its first "
            + "and second pin, those alone whose line goes to two places or more, pins of gates, data of cells, and being "
            + "an output each counting as one, as the net is closed.", () -> {
            // 0 goes to both pins of 2, 1 to 3 alone, 2 to 3 and the cell, 3 to 4 and is an output.
            StuckatBench x = open("i f a0,0 o2,1 v3 d1=2 !3");
            int[] line = {0, 1, 2, 2, 2, 3, 3, 4, 4};
            int[] pin = {-1, -1, -1, 0, 1, -1, 0, -1, 0};
            is(x.close(), 18);
            for (int f = 0; f < 18; f++) is(x.lineOf(f) + " " + x.pinOf(f), line[f / 2] + " " + pin[f / 2]);
            x.testPoint(1);
            is(x.faults(), 18);
        });
        says(11, "At each place there are two: stuck at 0, then at 1.", () -> {
            StuckatBench x = net("i a0,0 !1", "0", "1");
            for (int p = 0; p < 2; p++) {
                is("" + x.faulty(p, 0, 0) + x.faulty(p, 0, 1) + x.faulty(p, 1, 2) + x.faulty(p, 1, 3), "0101");
            }
            // The first pin at 0 and at 1, then the second one.
            is("" + x.faulty(1, 1, 4) + x.faulty(1, 1, 5) + x.faulty(1, 1, 6) + x.faulty(1, 1, 7), "0101");
        });
    }

    private static void added() {
        says(12, "So faults are numbered, also behind all of these what is added:", () -> {
            StuckatBench x = net(APART);
            is(x.faults(), 8);
            is(x.slow(2, true), 8);
            is(x.bridge('w', 0, 1), 9);
            is(x.slow(0, false), 10);
            is(x.faults(), 11);
        });
        says(17, "bridges, at most 8, of two lines of which neither depends on the other one through gates,", () -> {
            StuckatBench x = net("i i b0 b2 f d4=3 !1");
            throwsIt(UNSUPPORTED, () -> x.bridge('w', 0, 2));
            throwsIt(UNSUPPORTED, () -> x.bridge('w', 3, 0));
            throwsIt(UNSUPPORTED, () -> x.bridge('w', 1, 1));
            int base = x.faults();
            for (int k = 0; k < 8; k++) is(x.bridge('d', k % 2 == 0 ? 1 : 4, 3), base + k);
            throwsIt(STATE, () -> x.bridge('d', 1, 3));
        });
        says(11, "by the values that both have without it: by 'w' both are and, by 'u' both are or, by 'd' the second one is "
            + "what the first one is;", () -> {
            StuckatBench x = net(APART, "10", "1?");
            int[] faults = {x.bridge('w', 0, 1), x.bridge('u', 0, 1), x.bridge('d', 0, 1), x.bridge('d', 1, 0)};
            String[] due = {"0000", "1111", "1111", "0000"};
            String[] unknown = {"2222", "1111", "1111", "2222"};
            for (int k = 0; k < 4; k++) {
                is(valuesOf(x, 0, faults[k]), due[k]);
                is(valuesOf(x, 1, faults[k]), unknown[k]);
            }
            // The second line alone is what the first one is.
            StuckatBench y = net(APART, "01");
            is(valuesOf(y, 0, y.bridge('d', 0, 1)), "0000");
            is(valuesOf(y, 0, y.bridge('d', 1, 0)), "1111");
        });
        says(18, "and slow ones, at most 8, of a line, to rise or to fall.", () -> {
            StuckatBench x = inputs(1, "0", "1", "0");
            for (int k = 0; k < 8; k++) is(x.slow(0, k % 2 == 0), 2 + k);
            throwsIt(STATE, () -> x.slow(0, true));
            is(x.faulty(1, 0, 2) + " " + x.faulty(1, 0, 3), "0 1");
            is(x.faulty(2, 0, 2) + " " + x.faulty(2, 0, 3), "0 1");
        });
    }

    private static String valuesOf(StuckatBench x, int pattern, int fault) {
        StringBuilder text = new StringBuilder();
        for (int line = 0; line < 4; line++) text.append(x.faulty(pattern, line, fault));
        return text.toString();
    }

    private static String likesOf(StuckatBench x) {
        StringBuilder text = new StringBuilder();
        for (int f = 0; f < x.faults(); f++) text.append(x.alike(f));
        return text.toString();
    }

    private static void likes() {
        says(15, "Stuck faults are alike by these steps, again and again:", () -> is(likesOf(net("i v0 v1 b2 !3")), "01100101"));
        says(15, "at an and, stuck at 0 at an input is as at its output;", () -> is(likesOf(net("i i a0,1 !2")), "010305"));
        says(15, "at a not and, 0 as 1 at its output;", () -> is(likesOf(net("i i n0,1 !2")), "010340"));
        says(15, "at an or, 1 as 1;", () -> is(likesOf(net("i i o0,1 !2")), "012141"));
        says(15, "at a not or, 1 as 0;", () -> is(likesOf(net("i i r0,1 !2")), "012115"));
        says(15, "at the same and not, both, as what they give;", () -> {
            is(likesOf(net("i b0 !1")), "0101");
            is(likesOf(net("i v0 !1")), "0110");
            is(likesOf(net("i i x0,1 !2")), "012345");
        });
        says(15, "an input being the place at its pin, or the stem of its line if that goes to one place alone,", () -> {
            is(likesOf(net("i a0,0 !1")), "01232527");
            is(likesOf(net("i b0 !0 !1")), "012323");
        });
        says(15, "being a test point counting as one, too.", () -> {
            StuckatBench x = net("i b0 !1");
            x.testPoint(0);
            is(likesOf(x), "0123");
        });
    }

    private static void classes() {
        says(24, "Nothing is alike through a gate whose line is tied.", () -> {
            // 4 = (0 and 1) and not 0, which is 0 always; its inputs are the stems 8 of 3 and 4 of 2.
            StuckatBench x = net("i i v0 a0,1 a3,2 o4,1 !5");
            is("" + x.alike(14) + x.alike(8) + x.alike(7) + x.alike(12), "4444");
            is(x.classes(), 12);
            is(x.tie(14), 1);
            is(x.alike(14) + " " + x.alike(8) + " " + x.alike(7) + " " + x.alike(12), "14 8 4 8");
            // Through the gate behind it, all is as before.
            is(x.alike(17), 15);
            is(x.classes(), 14);
        });
        says(16, "A class, as things are now, is all those that are alike so; its first one stands for it.", () -> {
            StuckatBench x = net("i b0 b1 !2");
            is(likesOf(x) + " " + x.classes(), "010101 2");
            x.testPoint(1);
            is(likesOf(x) + " " + x.classes(), "010145 4");
            x.testPoint(0);
            is(likesOf(x) + " " + x.classes(), "012345 6");
        });
    }

    private static void findings() {
        says(19, "A pattern finds a fault if some observed line is 0 or 1 without it, and the other one, not unknown, "
            + "with it.", () -> {
            StuckatBench x = net("i i a0,1 !2", "1?", "11", "01");
            is(x.foundBy(4), 2L);
            is(x.foundBy(5), 4L);
            // An or of 1 and what is not known is not known with the 1 at 0.
            is(net("i i o0,1 !2", "1?").foundBy(0), 0L);
            is(net("i i o0,1 b0 !2 !3", "1?").foundBy(0), 1L);
            is(net("i i b0 b1 !3", "11").foundBy(0), 0L);
        });
        says(19, "It finds a slow one with the pattern ahead of it, on the same chip: the line is 0, for rising, or 1 in the one "
            + "ahead, and the pattern finds its stem stuck at that; the pattern 0 finds none.", () -> {
            StuckatBench x = net("i b0 !1", "0", "1", "1", "0", "?", "0");
            int rise = x.slow(0, true);
            int fall = x.slow(0, false);
            is(x.foundBy(rise), 2L);
            is(x.foundBy(fall), 8L);
            // The one ahead is the one that is ahead by then.
            x.merge(0, 3);
            is(x.foundBy(rise), 2L);
            is(x.foundBy(fall), 0L);
            x.merge(1, 3);
            is(x.foundBy(fall), 8L);
        });
        says(21, "The classes of stuck faults alone count for coverage.", () -> {
            StuckatBench x = net(APART, "00", "10");
            is(x.coverage('s'), 0.75f);
            is(x.foundBy(x.bridge('w', 0, 1)), 2L);
            is(x.foundBy(x.slow(0, true)), 2L);
            for (char engine : "spd".toCharArray()) is(x.coverage(engine), 0.75f);
        });
    }

    // ---- engines

    private static void engines() {
        says(19, "'s' each fault by itself; 'p' all patterns at once, in words;", () -> {
            StuckatBench x = net(REDUNDANT, "0?", "?1", "11", "01", "10");
            x.bridge('d', 3, 4);
            x.slow(1, true);
            for (int f = 0; f < x.faults(); f++) {
                long sum = 0;
                for (int p = 0; p < 5; p++) {
                    is(x.finds(f, p, 'p'), x.finds(f, p, 's'));
                    sum += x.finds(f, p, 's') ? 1 << p : 0;
                }
                is(x.foundBy(f), sum);
            }
        });
        says(19, "'d' by lists of faults that go through the gates, for patterns without unknown values alone: others find "
            + "nothing by it.", () -> {
            StuckatBench x = net("i i b0 v2 !3", "1?", "10", "0?", "??");
            for (int f : new int[] {0, 4, 7}) is("" + x.finds(f, 0, 'd') + x.finds(f, 1, 'd') + x.finds(f, 0, 's'), "falsetruetrue");
            for (int f = 0; f < x.faults(); f++) is(x.finds(f, 2, 'd') || x.finds(f, 3, 'd'), false);
            is(x.coverage('s'), 0.5f);
            is(x.coverage('d'), 0.25f);
        });
    }

    // ---- patterns made

    private static void decisions() {
        says(22, "Decisions are made on sources by rising numbers, first 0, then 1, all others being unknown;", () -> {
            StuckatBench x = net("i i i b1 !3");
            is(row(x, x.make(7), 3), "00?");
            is(row(x, x.make(6), 3), "01?");
        });
        says(22, "as soon as the fault is found, these are the pattern;", () -> {
            StuckatBench x = net("i i i i b0 !4");
            is(row(x, x.make(1), 4), "0???");
            is(row(x, x.make(0), 4), "1???");
        });
        says(22, "with all sources known and it not being found, the last decision that was 0 is 1 instead.", () -> {
            StuckatBench x = net("i i i x0,1 a3,2 !4");
            // With 100 it is not found, so that the third decision is 1; and so on.
            is(row(x, x.make(0), 3), "101");
            is(row(x, x.make(1), 3), "001");
            is(row(x, x.make(8), 3), "011");
        });
        says(23, "A fault for which all are gone through is impossible.", () -> {
            StuckatBench x = net(REDUNDANT);
            for (int f = 0; f < x.faults(); f++) {
                int fault = f;
                boolean isImpossible = x.isImpossible(f);
                is(answerOf(() -> x.make(fault)) == NO_ELEMENT, isImpossible);
                is(x.ways(f) == 0, isImpossible);
            }
            is(x.isImpossible(0), true);
        });
    }

    private static void ties() {
        says(24, "Impossible ones of stems can be tied: the line is the value at which it is stuck from then on, in all runs;", () -> {
            // 3 is 0 and 1, observed only behind the tie of the line 0.
            StuckatBench x = net(REDUNDANT, "11");
            throwsIt(UNSUPPORTED, () -> x.tie(2));
            throwsIt(ILLEGAL, () -> x.tie(6));
            is(x.tie(0), 1);
            is(x.testPoint(3), 2);
            is("" + x.value(0, 0) + x.value(0, 2) + x.value(0, 3) + x.value(0, 4) + x.value(0, 6), "01011");
            is("" + x.faulty(0, 0, 2) + x.faulty(0, 3, 2), "00");
            is(x.weight(0) + " " + x.weight(2) + " " + x.weight(3), "0 4 0");
            is(x.signature(-1), 2);
            x.bridge('u', 0, 1);
            is(x.value(0, 0), 0);
        });
        says(24, "a fault at its stem takes the place of that.", () -> {
            StuckatBench x = net(REDUNDANT, "11");
            x.tie(0);
            x.testPoint(3);
            is("" + x.faulty(0, 0, 1) + x.faulty(0, 2, 1) + x.faulty(0, 3, 1), "101");
            for (char engine : "spd".toCharArray()) is(x.finds(1, 0, engine), true);
            is(x.foundBy(1), 1L);
            is(x.signature(1), 2 + 1);
            // What the source 0 is is of no meaning: the source 1 has to be 1.
            is(x.ways(1), 2);
            is(row(x, x.make(1), 2), "01");
            x.breakChip(1);
            is(x.fails(0), 1L);
            is(x.candidate(0), 1);
        });
    }

    private static void merges() {
        says(25, "Two patterns can be merged if no source is 0 in one and 1 in the other one.", () -> {
            StuckatBench x = inputs(3, "1?0", "?10", "0??");
            throwsIt(UNSUPPORTED, () -> x.merge(0, 2));
            throwsIt(UNSUPPORTED, () -> x.merge(2, 0));
            is(x.merge(0, 1), 2);
            is(row(x, 0, 3), "110");
        });
        says(51, "A time goes with its pattern, of merged ones that of the first.", () -> {
            StuckatBench x = inputs(2, "0?", "1?", "?1", "11");
            for (int p = 0; p < 4; p++) x.setTime(p, 10 + p);
            x.merge(2, 0);
            is(x.setTime(0, 1) + " " + x.setTime(1, 1) + " " + x.setTime(2, 1), "11 12 13");
        });
        says(26, "Merging all goes by rising numbers: each pattern is merged into the first one ahead that is left with which it "
            + "can be, otherwise it is left.", () -> {
            StuckatBench x = inputs(3, "1??", "0??", "?1?", "?00", "??1");
            is(x.mergeAll(), 2);
            is(row(x, 0, 3) + " " + row(x, 1, 3), "111 000");
        });
        says(27, "Turning about goes from the last pattern on: one is left if it finds a class that none behind, which are left, "
            + "finds.", () -> {
            StuckatBench x = net(APART, "01", "00", "11");
            is(x.turnAbout(), 2);
            is(row(x, 0, 2) + " " + row(x, 1, 2), "00 11");
            StuckatBench y = net(APART, "00", "11", "01");
            is(y.turnAbout(), 3);
        });
    }

    private static void fills() {
        says(28, "Filling gives unknown sources 0 'z', 1 'o', or 'a' what the source ahead has, 0 for those ahead of all known ones.", () -> {
            StuckatBench x = inputs(5, "?1?0?", "?1?0?", "?1?0?", "??1??");
            x.fill(0, 'z');
            x.fill(1, 'o');
            x.fill(2, 'a');
            x.fill(3, 'a');
            is(row(x, 0, 5) + " " + row(x, 1, 5) + " " + row(x, 2, 5) + " " + row(x, 3, 5), "01000 11101 01100 00111");
        });
        says(29, "The power of a pattern is the sum, over sources next to each other that are unlike, both being known, of the "
            + "number of the higher one.", () -> {
            StuckatBench x = inputs(4, "0110", "0?10", "1111", "0101");
            is(x.power(0) + " " + x.power(1) + " " + x.power(2) + " " + x.power(3), "4 3 0 6");
        });
    }

    // ---- rings

    private static void rings() {
        says(32, "A ring has 2 to 16 bits, and taps, as a sum of 2 to the power of bits;", () -> {
            StuckatBench x = new StuckatBench();
            for (int bits : new int[] {1, 17}) throwsIt(ILLEGAL, () -> x.setRing(bits, 1));
            for (int taps : new int[] {0, 8}) throwsIt(ILLEGAL, () -> x.setRing(3, taps));
            is(x.setRing(2, 2), 2);
            is(x.setRing(16, 32768), 16);
        });
        says(32, "in a step, the exclusive or of the tapped bits comes in as the bit 0, all others moving up by 1.", () -> {
            // 1, 3, 7, 6, 5, 2, 4, and 1 again; the bit 0 behind each step is told by a seed of 1.
            StuckatBench x = inputs(7, "1101001", "1010011");
            is(x.setRing(3, 5), 7);
            is(x.seedFor(0), 1);
            is(x.seedFor(1), 3);
        });
        says(36, "Of a seed, the lowest bits are taken.", () -> {
            StuckatBench x = net(AND_OR);
            x.setRing(3, 5);
            // 1 presses 110, which finds two classes, and 0 presses 000, which finds one.
            is(x.chance(1, 1) + " " + x.chance(9, 1) + " " + x.chance(65529, 1), "2 2 2");
            is(x.chance(0, 1) + " " + x.chance(8, 1) + " " + x.chance(65528, 1), "1 1 1");
        });
    }

    private static void seeds() {
        says(33, "As seeds press a pattern, the source k gets the bit 0 behind k + 1 steps.", () -> {
            // A ring of four that goes round: the bit 3 is the bit 0 behind one step.
            StuckatBench x = inputs(5, "1????", "?1???", "??1??", "???1?", "????1");
            x.setRing(4, 8);
            is(x.seedFor(0) + " " + x.seedFor(1) + " " + x.seedFor(2) + " " + x.seedFor(3) + " " + x.seedFor(4), "8 4 2 1 8");
        });
        says(34, "A signature begins with 0; for each pattern, by rising numbers, the ring steps, and each observed line that is "
            + "1, the j-th in rising order, from 0, turns the bit j modulo its bits over; unknown ones do not turn.", () -> {
            // 11111 turns the bits 0 1 2 0 1: 4 is left, which steps to 1; the line 1 turns the bit 1.
            StuckatBench x = net("i i i i i !0 !1 !2 !3 !4", "11111", "0100?");
            x.setRing(3, 4);
            is(x.signature(-1), 3);
            // With the line 1 at 0 the first one leaves 6, which steps to 5, and nothing turns that.
            is(x.signature(2), 5);
        });
        says(36, "The chance tries of a ring: from a seed, each pattern takes all sources as a seed presses it, the next one going "
            + "on with the ring as it is then.", () -> {
            StuckatBench x = net(AND_OR);
            x.setRing(4, 8);
            // 8 presses 100, then 010, 001 and 000.
            is(x.chance(8, 1) + " " + x.chance(8, 2) + " " + x.chance(8, 3) + " " + x.chance(8, 4), "2 3 5 5");
        });
    }

    private static void counts() {
        says(37, "The weight of a line is the number of all sources' values, 2 to the power of their number, by which it is 1;", () -> {
            StuckatBench x = net(AND_OR);
            is(x.weight(0) + " " + x.weight(1) + " " + x.weight(2) + " " + x.weight(3) + " " + x.weight(4), "4 4 4 2 5");
        });
        says(38, "the ways of a fault those by which it is found.", () -> {
            StuckatBench x = net(AND_OR);
            StringBuilder text = new StringBuilder();
            for (int f = 0; f < 10; f++) text.append(x.ways(f));
            is(text.toString(), "1111331353");
        });
        says(39, "The hardest class is that with the fewest ways, but not none, of several the lowest one.", () -> {
            is(net(AND_OR).hardest(), 0);
            // The line 0 goes nowhere; of the and, 1 at 0 is found by two ways, and so are others.
            StuckatBench x = net("i i i a1,2 !3");
            is(x.ways(0) + " " + x.ways(1) + " " + x.ways(2) + " " + x.ways(3) + " " + x.ways(7), "0 0 2 2 6");
            is(x.hardest(), 2);
        });
    }

    // ---- chips, candidates, chains

    private static void chips() {
        says(40, "The chip on the bench has at first no fault; at most 2 stuck faults are put into it, both at once, of two at one "
            + "place the later one.", () -> {
            StuckatBench x = net("i b0 b0 !1 !2", "1", "0");
            is(x.fails(0) + " " + x.mend(), "0 0");
            x.breakChip(2);
            is(x.fails(0), 1L);
            x.breakChip(6);
            is(x.fails(0), 3L);
            throwsIt(STATE, () -> x.breakChip(0));
            is(x.mend(), 2);
            x.breakChip(2);
            x.breakChip(3);
            is(x.fails(0) + " " + x.fails(1), "0 1");
            // The pin's fault lies ahead of the stem's, wherever it comes.
            x.mend();
            x.breakChip(3);
            x.breakChip(4);
            is(x.fails(0) + " " + x.fails(1), "0 1");
        });
        says(42, "A pattern fails on it at the observed lines that are 0 or 1 in the net, and the other one, not unknown, on the "
            + "chip.", () -> {
            StuckatBench x = net("i i o0,1 b0 b1 !2 !3 !4", "1?", "?1");
            x.breakChip(0);
            is(x.fails(0) + " " + x.fails(1), "2 0");
            x.breakChip(2);
            is(x.fails(0) + " " + x.fails(1), "3 5");
        });
    }

    private static void candidates() {
        says(44, "Each stuck class would fail so, too, alone: the fails in both are explained, those in one alone are wrong.", () -> {
            StuckatBench x = net(APART, "11", "10");
            x.breakChip(0);
            x.breakChip(2);
            // The chip fails at both lines, then at the first one; 0 explains two of three, 2 one.
            is(x.wrong(0) + " " + x.wrong(2) + " " + x.wrong(3) + " " + x.wrong(1), "1 2 4 3");
            is(x.candidate(0) + " " + x.candidate(1), "0 2");
            throwsIt(NO_ELEMENT, () -> x.candidate(2));
        });
        says(43, "Candidates are the classes that explain some fail, in the order of fewer wrong ones, then of numbers.", () -> {
            StuckatBench x = net(AND_OR, "110", "001");
            x.breakChip(8);
            is(x.candidate(0) + " " + x.candidate(1) + " " + x.candidate(2), "8 0 4");
            throwsIt(NO_ELEMENT, () -> x.candidate(3));
        });
        says(45, "Recording adds 1 to the tally of the first fault of the first candidate; that of a class is the sum of those of "
            + "its faults.", () -> {
            StuckatBench x = net("i b0 b1 !2", "0", "1");
            x.breakChip(4);
            is(x.record() + " " + x.record(), "1 2");
            is(x.tally(0) + " " + x.tally(2) + " " + x.tally(4) + " " + x.tally(1), "2 2 2 0");
            x.testPoint(0);
            is(x.record(), 1);
            is(x.tally(0) + " " + x.tally(2) + " " + x.tally(4), "2 1 1");
        });
    }

    private static String seenOf(StuckatBench x, int place, int value) {
        x.breakChain(place, value);
        return "" + x.seen(0, 0) + x.seen(0, 1) + x.seen(0, 2);
    }

    private static void chains() {
        says(47, "The cells are one chain, by rising numbers from its beginning to its end.", () -> {
            StuckatBench x = net("f i f v0 f d0=1 d2=3 d4=1", "1101");
            throwsIt(ILLEGAL, () -> x.breakChain(3, 0));
            // The places 0, 1 and 2 are the lines 0, 2 and 4; the line 3 is not the cell 0.
            is(seenOf(x, -1, 0) + " " + seenOf(x, 1, 1) + " " + seenOf(x, 0, 0), "101 111 011");
        });
        says(47, "It can be broken: one cell is always 0, or 1, as it is shifted.", () -> {
            StuckatBench x = net(UNLIKE, "1011");
            is(x.breakChain(1, 0), -1);
            is(x.seen(0, 1), 0);
            is(x.breakChain(1, 1), 1);
            is(x.seen(0, 1), 1);
            is(x.breakChain(-1, 1), 1);
            is("" + x.seen(0, 0) + x.seen(0, 1) + x.seen(0, 2), "101");
        });
        says(48, "So, as a pattern is shifted in, this cell and all behind it get this;", () -> {
            // The cell 2 takes what is unlike the cell 1, whether that or one ahead of it is broken.
            StuckatBench x = net(UNLIKE, "1011");
            is(seenOf(x, 1, 1) + " " + seenOf(x, 0, 1), "110 100");
            is(seenOf(x, 1, 0) + " " + seenOf(x, 0, 0), "001 011");
        });
        says(48, "then the net without faults gives data, which the cells take, this one, too;", () -> {
            StuckatBench x = net(UNLIKE, "1011");
            x.breakChip(6);
            x.breakChip(8);
            // As its data goes out through the cell itself, that of the cell 2 alone tells.
            is(seenOf(x, -1, 0) + " " + seenOf(x, 0, 0), "101 011");
        });
        says(48, "as these are shifted out, those of this cell and of all ahead of it are seen as this, those behind it as they are.", () -> {
            StuckatBench x = net(UNLIKE, "1011");
            is(seenOf(x, 2, 0) + " " + seenOf(x, 2, 1) + " " + seenOf(x, 0, 1), "000 111 100");
        });
    }

    private static void suspects() {
        says(49, "A place of the chain is suspected if a chain broken there, with the value of the one that is broken, would be seen "
            + "alike for all patterns, 2 being like 2 alone.", () -> {
            StuckatBench x = net(UNLIKE, "1011");
            x.breakChain(1, 0);
            is(x.suspects(), 2);
            x.breakChain(0, 1);
            is(x.suspects(), 1);
            StuckatBench y = net("f f i d0=2 d1=2", "00?");
            y.breakChain(0, 0);
            is(y.suspects(), 1);
            y.breakChain(1, 0);
            is(y.suspects(), 2);
            StuckatBench z = net("f f i d0=2 d1=2", "000");
            z.breakChain(0, 0);
            is(z.suspects(), 3);
            // One pattern that tells them apart is enough.
            add(z, "001");
            is(z.suspects(), 1);
        });
        says(50, "Trying all patterns takes as many cycles as the cells and 1, times the patterns, and the cells once more.", () -> {
            is(net(UNLIKE, "1011", "????").cycles(), 4 * 2 + 3);
            is(inputs(2, "00", "11", "01").cycles(), 3);
        });
    }

    // ---- order

    private static String orderOf(StuckatBench x) {
        StringBuilder text = new StringBuilder();
        for (int index = 0; index < x.patterns(); index++) text.append(x.orderAt(index));
        return text.toString();
    }

    private static void order() {
        says(51, "Each pattern takes a time, 1 at first.", () -> {
            StuckatBench x = inputs(1, "0");
            is(x.setTime(0, 9) + " " + x.setTime(0, 1), "1 9");
            is(x.setTime(x.make(0), 2), 1);
        });
        says(52, "The order is by the most gain for the time: the sum, for each class found by it and none ahead, of its tally plus "
            + "1, divided by its time, compared exactly, of several the lowest number.", () -> {
            // 11? finds z at 0, 000 z at 1, 001 c and z at 0, 110 d and z at 0.
            StuckatBench x = net(AND_OR, "11?", "000", "001", "110");
            is(orderOf(x), "2130");
            x.setTime(2, 2);
            is(orderOf(x), "3120");
            x.setTime(3, 5);
            is(orderOf(x), "0123");
            x.breakChip(6);
            for (int k = 0; k < 4; k++) is(x.record(), k + 1);
            // The class of d at 0 counts 5 by now: 6 of 5 are more than 1 of 1.
            is(orderOf(x), "3120");
            // 1 of 50 is less than 2 of 99, and 1 of 49 is more; 1 of 40 is as much as 2 of 80.
            StuckatBench y = net("i i !0 !1", "1?", "01");
            y.setTime(0, 50);
            y.setTime(1, 99);
            is(orderOf(y), "10");
            y.setTime(0, 49);
            is(orderOf(y), "01");
            StuckatBench z = net("i i !0 !1", "01", "1?");
            z.setTime(0, 80);
            z.setTime(1, 40);
            is(orderOf(z), "01");
            z.setTime(0, 81);
            is(orderOf(z), "10");
        });
        says(53, "What escapes some patterns ahead in it is the sum of tallies of classes found by none of them.", () -> {
            StuckatBench x = net(AND_OR, "11?", "000", "001", "110");
            x.breakChip(6);
            x.record();
            x.record();
            x.mend();
            x.breakChip(9);
            x.record();
            // The order is 110 with 2 + 1 and 1, then 000 with 1 + 1, then 001 and 11?.
            is(orderOf(x), "3120");
            is(x.escapes(0) + " " + x.escapes(1) + " " + x.escapes(2) + " " + x.escapes(4), "3 1 0 0");
        });
    }

    // ---- memories

    private static void memories() {
        says(58, "A memory has 8 cells of a bit.", () -> {
            is(marching("^0^z1^o0vz1vo0vz").marchCount('s'), 8 * 2);
            is(marching("^0^z1^o0vz1vo0vz").marchCount('a'), 8 * 7);
            throwsIt(ILLEGAL, () -> marching("^0").marchFinds('s', 8, 0, 0, 0));
        });
        says(57, "Its faults: 's' the cell a is always v;", () -> {
            is(marching("^0z").marchFinds('s', 3, 0, 1, 0), true);
            is(marching("^0z").marchFinds('s', 3, 0, 0, 0), false);
            is(marching("^1^o").marchFinds('s', 3, 0, 0, 0), true);
        });
        says(57, "'t' the cell a does not become v by writing, if it is the other one;", () -> {
            is(marching("^0z1o").marchFinds('t', 3, 0, 1, 0), true);
            // It does not become 0, but is 0 already in the one case.
            is(marching("^0z1o").marchFinds('t', 3, 0, 0, 0), false);
            is(marching("^1^0z").marchFinds('t', 3, 0, 0, 0), true);
        });
        says(57, "'c' as the cell a is written and becomes v, having been the other one, the cell b becomes w;", () -> {
            StuckatBench x = marching("^0^z1");
            is("" + x.marchFinds('c', 0, 5, 1, 1) + x.marchFinds('c', 0, 5, 1, 0), "truefalse");
            is("" + x.marchFinds('c', 0, 5, 0, 1) + x.marchFinds('c', 5, 0, 1, 1), "falsefalse");
            // With all cells 1 the first 1 turns nothing.
            is(marching("^1^o").marchFinds('c', 5, 0, 1, 0), false);
            is(marching("^01^o").marchFinds('c', 5, 0, 1, 0), true);
        });
        says(57, "'i' as a is written and becomes v likewise, b becomes the other one, of no meaning for w;", () -> {
            StuckatBench x = marching("^0^z1");
            is("" + x.marchFinds('i', 0, 5, 1, 7) + x.marchFinds('i', 5, 0, 1, -7), "truefalse");
            is(marching("^1^o").marchFinds('i', 5, 0, 1, 0), false);
            // A 1 behind a 0 turns the cell that is ahead, and a second one turns it back.
            is(marching("^01^o").marchFinds('i', 5, 0, 1, 0), true);
            is(marching("^0101^o").marchFinds('i', 5, 0, 1, 0), false);
        });
        says(57, "'a' the cell b is read and written in place of a.", () -> {
            is(marching("^0^z1").marchFinds('a', 0, 5, 9, 9), true);
            is(marching("^0^z1").marchFinds('a', 5, 0, 9, 9), true);
            is(marching("^0z1o").marchFinds('a', 0, 5, 9, 9), false);
        });
    }

    private static void marches() {
        says(54, "A march is a row of signs, at most 24:", () -> {
            StuckatBench x = new StuckatBench();
            for (int k = 1; k <= 24; k++) is(x.march('v'), k);
            throwsIt(STATE, () -> x.march('v'));
        });
        says(54, "'^' and 'v' begin an element, for which all cells are gone through upward, or downward, each with all signs up to "
            + "the next element:", () -> {
            // A cell that comes first turns one that comes behind it, ahead of its read.
            is("" + marching("^0^z1").marchFinds('c', 2, 6, 1, 1) + marching("^0^z1").marchFinds('c', 6, 2, 1, 1), "truefalse");
            is("" + marching("^0vz1").marchFinds('c', 2, 6, 1, 1) + marching("^0vz1").marchFinds('c', 6, 2, 1, 1), "falsetrue");
            is("" + marching("^0z1").isRight() + marching("^0^1z").isRight(), "truefalse");
        });
        says(54, "'0' and '1' write, 'z' reads and wants 0, 'o' wants 1.", () -> {
            String[] right = {"^0z", "^1o", "^01o", "^10z"};
            String[] wrong = {"^0o", "^1z", "^01z", "^10o"};
            for (String signs : right) is(marching(signs).isRight(), true);
            for (String signs : wrong) is(marching(signs).isRight(), false);
        });
        says(56, "It is right if it begins with an element and, without a fault, all it reads is as wanted, with all cells 0 at "
            + "first, and with all 1.", () -> {
            String[] wrong = {"", "0", "0^z", "^z", "vo", "^0z1^z"};
            for (String signs : wrong) is(marching(signs).isRight(), false);
            is(marching("^0z1vo").isRight(), true);
        });
        says(57, "It finds a fault if it reads otherwise in both cases.", () -> {
            // With all cells 0 at first 0 is what the cell is anyway.
            is(marching("^0^z").marchFinds('t', 4, 0, 0, 0), false);
            is(marching("^1^0^z").marchFinds('t', 4, 0, 0, 0), true);
        });
    }

    private static void repairs() {
        says(59, "Some bits of 8 rows and 8 columns are bad.", () -> {
            StuckatBench x = new StuckatBench();
            for (int k = 0; k < 64; k++) is(x.bad(k / 8, k % 8, true), k + 1);
            is(x.bad(0, 0, false), 63);
            throwsIt(INDEX, () -> x.bad(8, 0, true));
            throwsIt(INDEX, () -> x.bad(0, 8, true));
        });
        says(60, "Spare rows and columns are put in place of others. A repair takes the fewest of both together; of several, that "
            + "with the least sum of 2 to the power of its rows, then of its columns.", () -> {
            StuckatBench x = new StuckatBench();
            x.bad(0, 0, true);
            x.bad(0, 1, true);
            x.bad(3, 1, true);
            // Two in any case: the columns 0 and 1, the row 0 and the column 1, or the rows 0 and 3.
            is(x.repair(8, 8) + " " + x.repair(2, 1) + " " + x.repair(2, 0), "0 1 9");
            throwsIt(NO_ELEMENT, () -> x.repair(1, 0));
            throwsIt(NO_ELEMENT, () -> x.repair(0, 1));
            // One row is fewer than three columns.
            x.bad(3, 1, false);
            x.bad(0, 5, true);
            is(x.repair(8, 8), 1);
        });
    }

    // ---- boards and cores

    private static StuckatBench boarded(int many, char kind) {
        StuckatBench x = new StuckatBench();
        x.board(many, kind);
        return x;
    }

    private static void boards() {
        says(61, "A board has at most 12 wires, numbered from 0.", () -> {
            StuckatBench x = boarded(12, 'a');
            throwsIt(ILLEGAL, () -> x.board(13, 'a'));
            for (int wire = 0; wire < 12; wire++) is(x.got(wire, 'c'), wire + 1);
            throwsIt(INDEX, () -> x.got(12, 'c'));
        });
        says(62, "A wire can be open: 0 or 1 is got from it always.", () -> {
            StuckatBench x = boarded(4, 'a');
            x.openWire(1, 0);
            x.openWire(2, 1);
            is(x.got(1, 'c') + " " + x.got(2, 'c') + " " + x.got(1, 't') + " " + x.got(2, 't'), "0 7 0 63");
        });
        says(63, "Wires can be shorted, two by two, perhaps in rows: all that hang together get their and 'a', or or 'o', for the whole "
            + "board;", () -> {
            for (char kind : "ao".toCharArray()) {
                StuckatBench x = boarded(7, kind);
                is(x.shortWires(0, 2) + " " + x.shortWires(4, 2) + " " + x.shortWires(5, 6), "2 3 2");
                // 1, 3 and 5 hang together, and 6 and 7.
                String due = kind == 'a' ? "1 1 1 6 6" : "7 7 7 7 7";
                is(x.got(0, 'c') + " " + x.got(2, 'c') + " " + x.got(4, 'c') + " " + x.got(5, 'c') + " " + x.got(6, 'c'), due);
                is(x.got(1, 'c') + " " + x.got(3, 'c'), "2 4");
            }
        });
        says(64, "an open one is not among them, and joins none.", () -> {
            StuckatBench x = boarded(7, 'o');
            x.shortWires(0, 1);
            x.shortWires(1, 3);
            x.openWire(1, 0);
            is(x.got(0, 'c') + " " + x.got(1, 'c') + " " + x.got(3, 'c'), "1 0 4");
            // They hang together all the same, and once more by another way.
            is(x.shortWires(0, 3), 3);
            is(x.got(0, 'c') + " " + x.got(1, 'c') + " " + x.got(3, 'c'), "5 0 5");
        });
        says(64, "Codes are sent: 'c' the bits of the number of the wire plus 1, the lowest one first, as many as the number of wires "
            + "plus 1 has; 't' these, and then each of them turned over.", () -> {
            StuckatBench x = boarded(6, 'a');
            StuckatBench y = boarded(7, 'a');
            // Seven has three bits, and eight has four.
            is(x.got(0, 'c') + " " + x.got(0, 't') + " " + x.got(5, 't'), "1 49 14");
            is(y.got(0, 'c') + " " + y.got(0, 't') + " " + y.got(6, 't'), "1 225 135");
        });
    }

    private static void cores() {
        says(67, "At most 6 cores are numbered from 0, each with a time, a width and a power.", () -> {
            StuckatBench x = new StuckatBench();
            for (int k = 0; k < 6; k++) is(x.core(k + 1, 2, 3), k);
            throwsIt(STATE, () -> x.core(1, 1, 1));
            is(x.least(12, 18) + " " + x.least(2, 18) + " " + x.least(12, 3), "6 21 21");
        });
        says(68, "They begin in an order, each one not ahead of those ahead of it, as soon as the bus has its width, and the power is "
            + "enough, as long as it runs.", () -> {
            // In no order can the narrow one begin ahead of a wide one that is ahead of it.
            StuckatBench x = new StuckatBench();
            x.core(2, 4, 0);
            x.core(10, 4, 0);
            x.core(2, 1, 0);
            is(x.least(5, 0), 12);
            is(x.begins(5, 0, 0) + " " + x.begins(5, 0, 1) + " " + x.begins(5, 0, 2), "0 2 2");
            StuckatBench y = new StuckatBench();
            y.core(5, 1, 2);
            y.core(5, 1, 2);
            y.core(5, 1, 2);
            is(y.least(3, 6) + " " + y.least(3, 5) + " " + y.least(3, 3), "5 10 15");
            is(y.begins(3, 5, 0) + " " + y.begins(3, 5, 1) + " " + y.begins(3, 5, 2), "0 0 5");
        });
        says(69, "The least time is that of the order with the least end, of several the first one, compared by numbers.", () -> {
            StuckatBench x = new StuckatBench();
            x.core(5, 2, 3);
            x.core(4, 3, 3);
            x.core(6, 2, 3);
            // 0 1 2 ends at 11, 0 2 1 at 9, and so do others behind it.
            is(x.least(5, 6), 9);
            is(x.begins(5, 6, 0) + " " + x.begins(5, 6, 1) + " " + x.begins(5, 6, 2), "0 5 0");
        });
    }

    private static void exceptions() {
        says(17, "Exceptions. A method that throws an exception changes nothing. If several exceptions apply, the one that is listed "
            + "first is thrown.", () -> {
            Scene full = () -> {
                StuckatBench x = net(APART, "01");
                for (int k = 0; k < 8; k++) x.bridge('w', 0, 1);
                return x;
            };
            refused(ILLEGAL, full, x -> x.bridge('q', 9, 9));
            refused(INDEX, full, x -> x.bridge('w', 9, 9));
            refused(UNSUPPORTED, full, x -> x.bridge('w', 0, 2));
            refused(STATE, full, x -> x.bridge('w', 0, 1));
        });
    }
}
