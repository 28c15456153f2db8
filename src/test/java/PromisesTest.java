/** For each promise of the document: ordinary calls, the edges that it names, and wrong calls. */
public final class PromisesTest extends Checks {
    public static void main(String[] args) {
        nets();
        patternsAndValues();
        faults();
        found();
        made();
        joined();
        rings();
        counted();
        chips();
        chains();
        order();
        marches();
        repairs();
        boards();
        cores();
        whole();
        end();
    }

    // ---- promises 1 to 8

    private static void nets() {
        promise = 1;
        StuckatBench x = new StuckatBench();
        is(x.faults(), 0);
        is(x.patterns(), 0);
        is(x.classes(), 0);
        is(x.mend(), 0);
        is(x.eraseMarch(), 0);
        is(x.cycles(), 0);
        is(x.suspects(), 0);
        is(x.board(3, 'a'), 0);
        StuckatBench own = net("i i i i i !0", "10110", "01???", "11001");
        StuckatBench set = net("i i i i i !0", "10110", "01???", "11001");
        is(set.setRing(4, 12), 15);
        is(own.seedFor(1), set.seedFor(1));
        is(own.signature(-1), set.signature(-1));
        is(own.chance(9, 3), set.chance(9, 3));

        promise = 2;
        x = new StuckatBench();
        for (int k = 0; k < 12; k++) is(k % 2 == 0 ? x.input() : x.cell(), k);
        StuckatBench full = x;
        throwsIt(STATE, () -> full.input());
        throwsIt(STATE, () -> full.cell());
        is(x.gate('b', 3, 0), 12);
        StuckatBench forty = open("i");
        for (int k = 1; k < 40; k++) is(forty.gate('b', k - 1, 0), k);
        throwsIt(STATE, () -> forty.input());
        forty.output(39);
        is(forty.close(), 80);
        throwsIt(UNSUPPORTED, () -> forty.input());

        promise = 3;
        throwsIt(UNSUPPORTED, () -> forty.cell());
        StuckatBench lone = new StuckatBench();
        is(lone.cell(), 0);
        is(lone.cell(), 1);
        throwsIt(UNSUPPORTED, () -> lone.close());
        is(lone.data(0, 1), -1);
        throwsIt(UNSUPPORTED, () -> lone.close());
        is(lone.data(1, 1), -1);
        is(lone.cycles(), 2);
        is(lone.close(), 4);
        StuckatBench thirtyNine = open("i");
        for (int k = 1; k < 39; k++) thirtyNine.gate('v', 0, 0);
        is(thirtyNine.cell(), 39);
        throwsIt(STATE, () -> thirtyNine.cell());

        promise = 4;
        gates();

        promise = 5;
        StuckatBench cells = open("i f v0");
        throwsIt(INDEX, () -> cells.data(3, 0));
        throwsIt(INDEX, () -> cells.data(-1, 0));
        throwsIt(INDEX, () -> cells.data(1, 3));
        throwsIt(INDEX, () -> cells.data(1, -1));
        throwsIt(INDEX, () -> cells.data(0, MIN));
        throwsIt(UNSUPPORTED, () -> cells.data(0, 1));
        throwsIt(UNSUPPORTED, () -> cells.data(2, 1));
        is(cells.data(1, 2), -1);
        is(cells.data(1, 1), 2);
        is(cells.data(1, 0), 1);
        cells.close();
        throwsIt(INDEX, () -> cells.data(1, 3));
        throwsIt(UNSUPPORTED, () -> cells.data(1, 2));
        add(cells, "1?");
        is(cells.seen(0, 0), 1);

        promise = 6;
        StuckatBench out = open("i v0");
        throwsIt(INDEX, () -> out.output(2));
        throwsIt(INDEX, () -> out.output(-1));
        is(out.output(1), true);
        is(out.output(1), false);
        is(out.output(0), true);
        out.close();
        throwsIt(INDEX, () -> out.output(2));
        throwsIt(UNSUPPORTED, () -> out.output(0));

        promise = 7;
        closings();

        promise = 8;
        StuckatBench tested = open("i i a0,1 b2 !3");
        throwsIt(INDEX, () -> tested.testPoint(4));
        throwsIt(UNSUPPORTED, () -> tested.testPoint(2));
        tested.close();
        throwsIt(INDEX, () -> tested.testPoint(-1));
        is(tested.classes(), 4);
        is(tested.testPoint(3), 1);
        is(tested.classes(), 4);
        is(tested.testPoint(2), 2);
        is(tested.testPoint(2), 2);
        is(tested.classes(), 6);
        is(tested.faults(), 8);
        is(tested.testPoint(0), 3);
        is(tested.testPoint(1), 4);
        is(net("i f v0 d1=2").testPoint(2), 1);
        is(net("i f v0 d1=2").testPoint(0), 2);
    }

    private static void gates() {
        StuckatBench x = open("i i");
        throwsIt(ILLEGAL, () -> x.gate('q', 9, 9));
        throwsIt(ILLEGAL, () -> x.gate('i', 0, 1));
        throwsIt(ILLEGAL, () -> x.gate('f', 0, 1));
        throwsIt(ILLEGAL, () -> x.gate((char) 0, 0, 1));
        throwsIt(ILLEGAL, () -> x.gate('A', 0, 1));
        for (char kind : "aonrx".toCharArray()) {
            throwsIt(INDEX, () -> x.gate(kind, 0, 2));
            throwsIt(INDEX, () -> x.gate(kind, 2, 0));
            throwsIt(INDEX, () -> x.gate(kind, -1, 0));
            throwsIt(INDEX, () -> x.gate(kind, 0, MIN));
        }
        throwsIt(INDEX, () -> x.gate('b', 2, 0));
        throwsIt(INDEX, () -> x.gate('v', -1, 0));
        is(x.gate('v', 1, 77), 2);
        is(x.gate('b', 1, -3), 3);
        is(x.gate('a', 0, 1), 4);
        is(x.gate('o', 0, 1), 5);
        is(x.gate('n', 0, 1), 6);
        is(x.gate('r', 0, 1), 7);
        is(x.gate('x', 0, 1), 8);
        is(x.gate('x', 0, 0), 9);
        is(x.gate('b', 0, 0), 10);
        x.output(8);
        x.close();
        throwsIt(ILLEGAL, () -> x.gate('q', 0, 0));
        throwsIt(INDEX, () -> x.gate('a', 0, 11));
        throwsIt(UNSUPPORTED, () -> x.gate('a', 0, 0));
        String[] rows = {"00", "01", "10", "11", "0?", "?0", "1?", "?1", "??"};
        String[] due = {
            digits("v1 b0 a0 o0 n1 r1 x0 x0 b0"), digits("v0 b1 a0 o1 n1 r0 x1 x0 b0"),
            digits("v1 b0 a0 o1 n1 r0 x1 x0 b1"), digits("v0 b1 a1 o1 n0 r0 x0 x0 b1"),
            digits("v2 b2 a0 o2 n1 r2 x2 x0 b0"), digits("v1 b0 a0 o2 n1 r2 x2 x2 b2"),
            digits("v2 b2 a2 o1 n2 r0 x2 x0 b1"), digits("v0 b1 a2 o1 n2 r0 x2 x2 b2"), "222222222"};
        for (int p = 0; p < rows.length; p++) {
            add(x, rows[p]);
            for (int k = 0; k < 9; k++) is(x.value(p, k + 2), due[p].charAt(k) - '0');
        }
        StuckatBench forty = open("i");
        for (int k = 1; k < 40; k++) forty.gate('a', k - 1, 0);
        throwsIt(STATE, () -> forty.gate('a', 0, 0));
        throwsIt(STATE, () -> forty.gate('b', 0, 50));
        throwsIt(INDEX, () -> forty.gate('a', 0, 40));
    }

    private static String digits(String text) {
        return text.replaceAll("[a-z ]", "");
    }

    private static void closings() {
        throwsIt(UNSUPPORTED, () -> new StuckatBench().close());
        StuckatBench blind = open("i i a0,1");
        throwsIt(UNSUPPORTED, () -> blind.close());
        blind.output(2);
        is(blind.close(), 6);
        throwsIt(UNSUPPORTED, () -> blind.close());
        StuckatBench cell = open("i f !0");
        throwsIt(UNSUPPORTED, () -> cell.close());
        cell.data(1, 1);
        is(cell.close(), 4);
        // A line that goes to both pins of a gate goes to two places.
        is(open("i a0,0 !1").close(), 8);
        // An output that is a pin, too; and a cell's data that is one.
        is(open("i v0 v1 !1 !2").close(), 8);
        is(open("i f v0 d1=0 !2").close(), 8);
        // Data of two cells are two places, but have no places of faults themselves.
        is(open("i f f d1=0 d2=0").close(), 6);
        is(open(REDUNDANT).close(), 24);
        is(open("i f f x0,1 n1,2 d1=3 d2=4").close(), 14);
    }

    // ---- promises 9 to 11, and 30 and 31

    private static void patternsAndValues() {
        promise = 9;
        StuckatBench x = open("i i !0");
        throwsIt(ILLEGAL, () -> x.pattern(4, 0));
        throwsIt(UNSUPPORTED, () -> x.pattern(3, 1));
        x.close();
        throwsIt(ILLEGAL, () -> x.pattern(-1, 0));
        throwsIt(ILLEGAL, () -> x.pattern(7, 0));
        throwsIt(ILLEGAL, () -> x.pattern(1, 2));
        throwsIt(ILLEGAL, () -> x.pattern(0, 1));
        throwsIt(ILLEGAL, () -> x.pattern(3, MIN));
        for (int p = 0; p < 32; p++) is(x.pattern(3, p & 3), p);
        throwsIt(STATE, () -> x.pattern(3, 0));
        throwsIt(ILLEGAL, () -> x.pattern(4, 0));

        promise = 30;
        is(x.patterns(), 32);
        StuckatBench y = net("i f i f d1=0 d3=0", "01?1", "????");
        is(y.patterns(), 2);

        promise = 31;
        is(y.known(0, false), 11);
        is(y.known(0, true), 10);
        is(y.known(1, false), 0);
        is(y.known(1, true), 0);
        throwsIt(INDEX, () -> y.known(2, true));
        throwsIt(INDEX, () -> y.known(-1, false));

        promise = 10;
        is(y.value(0, 0), 0);
        is(y.value(0, 1), 1);
        is(y.value(0, 2), 2);
        is(y.value(0, 3), 1);
        throwsIt(INDEX, () -> y.value(2, 0));
        throwsIt(INDEX, () -> y.value(-1, 0));
        throwsIt(INDEX, () -> y.value(0, 4));
        throwsIt(INDEX, () -> y.value(0, -1));
        StuckatBench tied = net(REDUNDANT, "11", "??");
        is(tied.value(0, 3), 1);
        is(tied.tie(0), 1);
        is(tied.value(0, 0), 0);
        is(tied.value(0, 2), 1);
        is(tied.value(0, 3), 0);
        is(tied.value(1, 0), 0);
        is(tied.value(1, 3), 0);

        promise = 11;
        faultyValues();
    }

    private static void faultyValues() {
        StuckatBench x = net(AND_OR, "110", "010", "??0");
        is(x.faulty(0, 0, 0), 0);
        is(x.faulty(0, 3, 0), 0);
        is(x.faulty(0, 4, 0), 0);
        is(x.faulty(0, 1, 0), 1);
        is(x.faulty(1, 4, 1), 1);
        is(x.faulty(2, 4, 6), 0);
        is(x.faulty(2, 4, 4), 2);
        throwsIt(INDEX, () -> x.faulty(3, 0, 0));
        throwsIt(INDEX, () -> x.faulty(0, 5, 0));
        throwsIt(INDEX, () -> x.faulty(0, 0, 10));
        throwsIt(INDEX, () -> x.faulty(0, 0, -1));
        // A pin's fault leaves the line before it as it is: faults 0 1 of 0, 2 3 of 1, 4 to 9 of 2.
        StuckatBench pins = net("i i a0,0 !2", "1?", "00");
        is(pins.faults(), 10);
        is(pins.faulty(0, 0, 6), 1);
        is(pins.faulty(0, 2, 6), 0);
        is(pins.faulty(0, 2, 8), 0);
        is(pins.faulty(1, 2, 7), 0);
        is(pins.faulty(1, 2, 5), 1);
        // Bridges take what both lines have without them, 2 being not known.
        StuckatBench bridged = net("i i b0 b1 !2 !3", "10", "1?", "0?");
        int w = bridged.bridge('w', 0, 1);
        int u = bridged.bridge('u', 0, 1);
        int d = bridged.bridge('d', 0, 1);
        int back = bridged.bridge('d', 1, 0);
        is("" + bridged.faulty(0, 0, w) + bridged.faulty(0, 1, w) + bridged.faulty(0, 2, w), "000");
        is("" + bridged.faulty(0, 0, u) + bridged.faulty(0, 1, u) + bridged.faulty(0, 3, u), "111");
        is("" + bridged.faulty(0, 0, d) + bridged.faulty(0, 1, d) + bridged.faulty(0, 3, d), "111");
        is("" + bridged.faulty(0, 0, back) + bridged.faulty(0, 1, back) + bridged.faulty(0, 2, back), "000");
        is("" + bridged.faulty(1, 0, w) + bridged.faulty(1, 1, w) + bridged.faulty(1, 2, w), "222");
        is("" + bridged.faulty(1, 0, u) + bridged.faulty(1, 3, u), "11");
        is("" + bridged.faulty(2, 0, w) + bridged.faulty(2, 3, w) + bridged.faulty(2, 0, u), "002");
        is("" + bridged.faulty(2, 1, d) + bridged.faulty(2, 0, back), "02");
        // A slow one needs the value in the pattern ahead, and then holds it.
        StuckatBench slow = net("i b0 !1", "0", "1", "?", "1", "0", "1");
        int rise = slow.slow(0, true);
        int fall = slow.slow(0, false);
        is("" + slow.faulty(0, 1, rise) + slow.faulty(1, 1, rise) + slow.faulty(2, 1, rise), "002");
        is("" + slow.faulty(3, 1, rise) + slow.faulty(4, 1, rise) + slow.faulty(5, 1, rise), "100");
        is("" + slow.faulty(0, 1, fall) + slow.faulty(2, 0, fall) + slow.faulty(4, 1, fall), "011");
        // Behind a tie a fault at the stem takes its place, and so does a bridge.
        StuckatBench tied = net(REDUNDANT, "11");
        tied.tie(0);
        is(tied.faulty(0, 0, 1), 1);
        is(tied.faulty(0, 3, 1), 1);
        is(tied.faulty(0, 3, 2), 0);
        is(tied.faulty(0, 0, tied.bridge('u', 0, 1)), 1);
    }

    // ---- promises 12 to 18

    private static void faults() {
        promise = 12;
        StuckatBench x = open(AND_OR);
        is(x.faults(), 0);
        x.close();
        is(x.faults(), 10);
        is(x.bridge('w', 0, 1), 10);
        is(x.slow(3, true), 11);
        is(x.bridge('d', 2, 3), 12);
        is(x.faults(), 13);

        promise = 13;
        is(x.lineOf(0), 0);
        is(x.lineOf(9), 4);
        is(x.lineOf(10), 0);
        is(x.lineOf(11), 3);
        is(x.lineOf(12), 2);
        throwsIt(INDEX, () -> x.lineOf(13));
        throwsIt(INDEX, () -> x.lineOf(-1));
        StuckatBench r = net(REDUNDANT);
        int[] line = {0, 1, 2, 2, 3, 3, 3, 4, 4, 5, 6, 6};
        int[] pin = {-1, -1, -1, 0, -1, 0, 1, -1, 1, -1, -1, 1};
        for (int place = 0; place < 12; place++) {
            is(r.lineOf(2 * place), line[place]);
            is(r.lineOf(2 * place + 1), line[place]);
        }

        promise = 14;
        for (int place = 0; place < 12; place++) {
            is(r.pinOf(2 * place), pin[place]);
            is(r.pinOf(2 * place + 1), pin[place]);
        }
        is(x.pinOf(10), -1);
        is(x.pinOf(11), -1);
        throwsIt(INDEX, () -> x.pinOf(13));
        throwsIt(INDEX, () -> x.pinOf(-1));

        promise = 15;
        int[] first = {0, 1, 0, 3, 4, 5, 0, 5, 8, 5, 10, 11, 12};
        for (int f = 0; f < 13; f++) is(x.alike(f), first[f]);
        throwsIt(INDEX, () -> x.alike(13));
        throwsIt(INDEX, () -> x.alike(-1));
        likes();

        promise = 16;
        is(x.classes(), 6);
        is(open(AND_OR).classes(), 0);
        is(net("i !0").classes(), 2);
        is(net("i i x0,1 !2").classes(), 6);
        is(net("i b0 v1 b2 v3 !4").classes(), 2);

        promise = 17;
        bridges();

        promise = 18;
        StuckatBench s = open("i b0 !1");
        throwsIt(INDEX, () -> s.slow(2, true));
        throwsIt(UNSUPPORTED, () -> s.slow(1, true));
        s.close();
        throwsIt(INDEX, () -> s.slow(-1, true));
        for (int k = 0; k < 8; k++) is(s.slow(k & 1, k < 4), 4 + k);
        throwsIt(STATE, () -> s.slow(0, true));
        throwsIt(INDEX, () -> s.slow(2, true));
        is(s.faults(), 12);
        is(s.lineOf(5), 1);
    }

    private static void likes() {
        String[] kinds = {"a", "n", "o", "r"};
        int[][] due = {{0, 1, 0, 3, 0, 5}, {0, 1, 0, 3, 4, 0}, {0, 1, 2, 1, 4, 1}, {0, 1, 2, 1, 1, 5}};
        for (int k = 0; k < 4; k++) {
            StuckatBench x = net("i i " + kinds[k] + "0,1 !2");
            for (int f = 0; f < 6; f++) is(x.alike(f), due[k][f]);
        }
        StuckatBench not = net("i v0 !1");
        is("" + not.alike(2) + not.alike(3), "10");
        StuckatBench same = net("i b0 !1");
        is("" + same.alike(2) + same.alike(3), "01");
        // The pin stands for a line that goes to two places; its stem is like nothing then.
        StuckatBench pins = net("i a0,0 !1");
        int[] alike = {0, 1, 2, 3, 2, 5, 2, 7};
        for (int f = 0; f < 8; f++) is(pins.alike(f), alike[f]);
        // A test point is a place more, which parts the stem from the gate.
        StuckatBench x = net("i b0 b1 !2");
        is("" + x.alike(2) + x.alike(4) + x.alike(5), "001");
        x.testPoint(1);
        is("" + x.alike(2) + x.alike(4) + x.alike(5), "045");
        x.testPoint(2);
        is("" + x.alike(2) + x.alike(4) + x.alike(5), "045");
        x.testPoint(0);
        is("" + x.alike(2) + x.alike(3), "23");
        // A pin of its own is alike whatever is tested.
        pins.testPoint(0);
        is(pins.alike(6), 2);
        // Nothing goes through a gate whose line is tied. Line 4 = (a and b) and not a is 0 always.
        StuckatBench tied = net("i i v0 a0,1 a3,2 o4,1 !5");
        int stem = 0;
        while (tied.lineOf(stem) != 4) stem++;
        is(tied.alike(stem), tied.alike(8));
        int before = tied.classes();
        is(tied.tie(stem), 1);
        is(tied.alike(stem) == stem, true);
        is(tied.classes() > before, true);
    }

    private static void bridges() {
        StuckatBench x = open("i i a0,1 v2 b1 !3 !4");
        throwsIt(ILLEGAL, () -> x.bridge('x', 9, 9));
        throwsIt(INDEX, () -> x.bridge('w', 0, 5));
        throwsIt(INDEX, () -> x.bridge('w', -1, 0));
        throwsIt(UNSUPPORTED, () -> x.bridge('w', 0, 1));
        x.close();
        throwsIt(ILLEGAL, () -> x.bridge('s', 0, 1));
        throwsIt(INDEX, () -> x.bridge('u', 5, 0));
        throwsIt(UNSUPPORTED, () -> x.bridge('u', 1, 1));
        throwsIt(UNSUPPORTED, () -> x.bridge('u', 0, 2));
        throwsIt(UNSUPPORTED, () -> x.bridge('d', 3, 0));
        throwsIt(UNSUPPORTED, () -> x.bridge('d', 3, 2));
        is(x.bridge('d', 0, 1), x.faults() - 1);
        int base = x.faults();
        for (int k = 1; k < 8; k++) is(x.bridge(k % 2 == 0 ? 'w' : 'u', 3, 4), base + k - 1);
        throwsIt(STATE, () -> x.bridge('w', 0, 1));
        throwsIt(UNSUPPORTED, () -> x.bridge('w', 0, 0));
        is(x.slow(0, true), base + 7);
        // A cell parts its data from what it gives.
        StuckatBench cell = net("f v0 d0=1");
        throwsIt(UNSUPPORTED, () -> cell.bridge('w', 0, 1));
        StuckatBench two = net("i f v0 d1=2");
        is(two.bridge('w', 1, 2), two.faults() - 1);
    }

    // ---- promises 19 to 21, and 70

    private static void found() {
        promise = 19;
        StuckatBench x = net(AND_OR, "110", "11?", "0?0", "001");
        String[] due = {"1000", "0000", "1000", "0000", "0001", "0010", "1000", "0010", "1101", "0010"};
        for (int f = 0; f < 10; f++) {
            for (int p = 0; p < 4; p++) {
                boolean is = due[f].charAt(p) == '1';
                is(x.finds(f, p, 's'), is);
                is(x.finds(f, p, 'p'), is);
                is(x.finds(f, p, 'd'), is && (p == 0 || p == 3));
            }
        }
        throwsIt(INDEX, () -> x.finds(10, 0, 's'));
        throwsIt(INDEX, () -> x.finds(0, 4, 's'));
        throwsIt(INDEX, () -> x.finds(-1, 0, 'q'));
        throwsIt(INDEX, () -> x.finds(0, -1, 'q'));
        throwsIt(ILLEGAL, () -> x.finds(0, 0, 'q'));
        // Bridges and slow ones are found by d as by s, with unknown values, too.
        int bridge = x.bridge('w', 0, 2);
        int slow = x.slow(4, false);
        for (char engine : "spd".toCharArray()) {
            is(x.finds(bridge, 0, engine), true);
            is(x.finds(bridge, 1, engine), false);
            is(x.finds(bridge, 3, engine), true);
            is(x.finds(slow, 0, engine), false);
            is(x.finds(slow, 1, engine), false);
            is(x.finds(slow, 2, engine), true);
            is(x.finds(slow, 3, engine), false);
        }

        enginesAgree();

        promise = 20;
        for (int f = 0; f < 10; f++) {
            long sum = 0;
            for (int p = 0; p < 4; p++) sum += due[f].charAt(p) == '1' ? 1L << p : 0;
            is(x.foundBy(f), sum);
        }
        is(x.foundBy(bridge), 9L);
        is(x.foundBy(slow), 4L);
        throwsIt(INDEX, () -> x.foundBy(12));
        throwsIt(INDEX, () -> x.foundBy(-1));
        StuckatBench many = net("i !0");
        for (int p = 0; p < 32; p++) add(many, "1");
        is(many.foundBy(0), 0xFFFFFFFFL);
        is(many.foundBy(many.slow(0, true)), 0L);
        is(net("i f v0 d1=2", "1?").foundBy(0), 1L);
        StuckatBench apart = net("i i b0 b1 !2 !3", "00", "10", "01", "11", "1?", "0?");
        is(apart.foundBy(apart.bridge('w', 0, 1)), 6L);
        is(apart.foundBy(apart.bridge('u', 0, 1)), 6L);
        is(apart.foundBy(apart.bridge('d', 0, 1)), 6L);
        is(apart.foundBy(apart.slow(0, true)), 2L + 8L);
        // Several observed lines, of which one is enough; a source can be one itself.
        StuckatBench wide = net("i f v0 d1=2 !0", "0?", "1?", "?1");
        is(wide.foundBy(0), 2L);
        is(wide.foundBy(1), 1L);
        is(wide.foundBy(2), 0L);

        promise = 21;
        is(x.coverage('s'), 4f / 6f);
        is(x.coverage('p'), 4f / 6f);
        is(x.coverage('d'), 3f / 6f);
        StuckatBench all = net(AND_OR, "110", "010", "100", "001");
        is(all.coverage('s'), 1f);
        is(all.coverage('d'), 1f);
        throwsIt(ILLEGAL, () -> x.coverage('x'));
        throwsIt(ILLEGAL, () -> new StuckatBench().coverage('x'));
        throwsIt(ARITHMETIC, () -> new StuckatBench().coverage('s'));
        throwsIt(ARITHMETIC, () -> open(AND_OR).coverage('d'));
        is(net(AND_OR).coverage('d'), 0f);

        promise = 70;
        is(x.meanFound(), (1 + 0 + 0 + 1 + 1 + 3) / 6.0);
        is(net(AND_OR).meanFound(), 0.0);
        throwsIt(ARITHMETIC, () -> new StuckatBench().meanFound());
        throwsIt(ARITHMETIC, () -> open(AND_OR).meanFound());
    }

    /** A net of all kinds with more than 64 faults, and with a tie. */
    private static void enginesAgree() {
        StuckatBench x = net("i i i i f f a0,1 o6,2 n3,7 r8,4 x9,5 b10 v11 x12,12 a12,10 o14,6 n15,15 r16,9 x8,16 "
            + "a13,3 o19,11 d4=12 d5=18 !17 !20", "000000", "111111", "010110", "101011", "0?1?10", "110100", "??????",
            "001?11", "011011", "100101");
        int stuck = x.faults();
        is(stuck > 64, true);
        for (int round = 0; round < 2; round++) {
            x.bridge(round == 0 ? 'u' : 'w', 6, 4);
            x.bridge('d', 3, 6);
            x.slow(12, round == 0);
            int some = 0;
            for (int f = 0; f < x.faults(); f++) {
                for (int p = 0; p < x.patterns(); p++) {
                    boolean is = x.finds(f, p, 's');
                    boolean isKnown = x.known(p, false) == 63;
                    is(x.finds(f, p, 'p'), is);
                    is(x.finds(f, p, 'd'), is && (isKnown || f >= stuck));
                    some += is ? 1 : 0;
                }
            }
            is(some > 100, true);
            // What 13 gives is 0 always.
            int stem = 0;
            while (x.lineOf(stem) != 13) stem++;
            if (round == 0) is(x.tie(stem), 1);
        }
    }

    // ---- promises 22 to 24

    private static void made() {
        promise = 22;
        StuckatBench x = net(AND_OR);
        is(x.make(0), 0);
        is(x.make(8), 1);
        is(x.make(9), 2);
        is(x.make(1), 3);
        is(row(x, 0, 3), "110");
        is(row(x, 1, 3), "001");
        is(row(x, 2, 3), "000");
        is(row(x, 3, 3), "010");
        StuckatBench and = net("i i a0,1 !2");
        is(row(and, and.make(5), 2), "0?");
        is(row(and, and.make(4), 2), "11");
        is(row(and, and.make(3), 2), "10");
        StuckatBench or = net("i i i o0,1 o3,2 !4");
        is(row(or, or.make(8), 3), "001");
        StuckatBench last = net("i i i v0 b3 !4");
        is(row(last, last.make(0), 3), "1??");
        int bridge = x.bridge('w', 0, 1);
        int slow = x.slow(0, true);
        throwsIt(ILLEGAL, () -> x.make(slow));
        throwsIt(INDEX, () -> x.make(slow + 1));
        throwsIt(INDEX, () -> x.make(-1));
        throwsIt(NO_ELEMENT, () -> x.make(bridge));
        StuckatBench apart = net("i i b0 b1 !2 !3");
        is(row(apart, apart.make(apart.bridge('d', 0, 1)), 2), "01");
        is(row(apart, apart.make(apart.bridge('d', 1, 0)), 2), "01");
        StuckatBench none = net(REDUNDANT);
        throwsIt(NO_ELEMENT, () -> none.make(0));
        is(none.patterns(), 0);
        for (int p = 0; p < 32; p++) add(none, "11");
        throwsIt(NO_ELEMENT, () -> none.make(0));
        throwsIt(STATE, () -> none.make(2));
        // With a tied line tested, its fault is found as soon as nothing is decided.
        StuckatBench tied = net(REDUNDANT);
        tied.tie(0);
        tied.testPoint(0);
        is(row(tied, tied.make(1), 2), "??");

        promise = 23;
        is(none.isImpossible(0), true);
        is(none.isImpossible(1), true);
        is(none.isImpossible(2), false);
        is(x.isImpossible(bridge), true);
        is(apart.isImpossible(apart.bridge('w', 0, 1)), false);
        throwsIt(ILLEGAL, () -> x.isImpossible(slow));
        throwsIt(INDEX, () -> x.isImpossible(slow + 1));
        throwsIt(INDEX, () -> x.isImpossible(-1));
        none.testPoint(0);
        is(none.isImpossible(0), false);

        promise = 24;
        StuckatBench t = net(REDUNDANT);
        int extra = t.bridge('w', 0, 1);
        throwsIt(INDEX, () -> t.tie(extra + 1));
        throwsIt(INDEX, () -> t.tie(-1));
        throwsIt(ILLEGAL, () -> t.tie(extra));
        throwsIt(ILLEGAL, () -> t.tie(6));
        throwsIt(UNSUPPORTED, () -> t.tie(2));
        is(t.tie(1), 1);
        throwsIt(UNSUPPORTED, () -> t.tie(0));
        throwsIt(UNSUPPORTED, () -> t.tie(1));
        is(t.weight(0), 4);
        is(t.weight(2), 0);
        int stem = 0;
        while (t.lineOf(stem) != 4) stem++;
        is(t.tie(stem), 2);
        is(t.weight(4), 0);
    }

    // ---- promises 25 to 29

    private static void joined() {
        promise = 25;
        StuckatBench x = net("i i i !0", "1??", "01?", "?10", "??1");
        x.setTime(0, 5);
        x.setTime(2, 7);
        throwsIt(INDEX, () -> x.merge(0, 4));
        throwsIt(INDEX, () -> x.merge(-1, 0));
        throwsIt(UNSUPPORTED, () -> x.merge(2, 2));
        throwsIt(UNSUPPORTED, () -> x.merge(0, 1));
        throwsIt(UNSUPPORTED, () -> x.merge(2, 3));
        is(x.merge(2, 0), 3);
        is(row(x, 0, 3) + row(x, 1, 3) + row(x, 2, 3), "01?110??1");
        is(x.setTime(1, 7), 7);
        is(x.setTime(0, 1), 1);
        is(x.merge(0, 2), 2);
        is(row(x, 0, 3) + row(x, 1, 3), "011110");
        joinedAll();
    }

    private static void joinedAll() {
        promise = 26;
        // 1?? takes ?1? and ??0; 0?? takes ?01; ?11 is left by itself.
        StuckatBench all = net("i i i !0", "1??", "0??", "?1?", "??0", "?01", "?11");
        all.setTime(0, 3);
        all.setTime(2, 9);
        all.setTime(5, 8);
        is(all.mergeAll(), 3);
        is(row(all, 0, 3) + row(all, 1, 3) + row(all, 2, 3), "110001?11");
        is(all.setTime(0, 1), 3);
        is(all.setTime(1, 1), 1);
        is(all.setTime(2, 1), 8);
        is(all.mergeAll(), 3);
        is(new StuckatBench().mergeAll(), 0);

        promise = 27;
        // 110 and 11? find what 001 and the last 110 find; 0?0 alone finds z at 1.
        StuckatBench t = net(AND_OR, "110", "11?", "0?0", "001", "110");
        t.setTime(2, 4);
        is(t.turnAbout(), 3);
        is(row(t, 0, 3) + row(t, 1, 3) + row(t, 2, 3), "0?0001110");
        is(t.setTime(0, 1), 4);
        is(t.turnAbout(), 3);
        is(net(AND_OR, "???", "1??").turnAbout(), 0);
        is(new StuckatBench().turnAbout(), 0);

        promise = 28;
        StuckatBench f = net("i i i i i !0", "?1??0", "?1??0", "?1??0", "??0?1", "01010", "?????");
        is(f.fill(0, 'z'), 3);
        is(f.fill(1, 'o'), 3);
        is(f.fill(2, 'a'), 3);
        is(f.fill(3, 'a'), 3);
        is(f.fill(4, 'o'), 0);
        is(f.fill(5, 'a'), 5);
        is(row(f, 0, 5), "01000");
        is(row(f, 1, 5), "11110");
        is(row(f, 2, 5), "01110");
        is(row(f, 3, 5), "00001");
        is(row(f, 4, 5), "01010");
        is(row(f, 5, 5), "00000");
        throwsIt(INDEX, () -> f.fill(6, 'q'));
        throwsIt(INDEX, () -> f.fill(-1, 'z'));
        throwsIt(ILLEGAL, () -> f.fill(0, 'q'));

        promise = 29;
        StuckatBench p = net("i i i i i !0", "01010", "00111", "0?101", "?????", "11110", "10000");
        is(p.power(0), 10);
        is(p.power(1), 2);
        is(p.power(2), 7);
        is(p.power(3), 0);
        is(p.power(4), 4);
        is(p.power(5), 1);
        throwsIt(INDEX, () -> p.power(6));
        throwsIt(INDEX, () -> p.power(-1));
    }

    // ---- promises 32 to 36

    private static void rings() {
        promise = 32;
        StuckatBench x = net("i i i i i !0", "00010", "11111", "?1???", "?????");
        is(x.setRing(4, 12), 15);
        is(x.setRing(4, 8), 4);
        is(x.setRing(4, 1), 0);
        is(x.setRing(4, 4), 0);
        is(x.setRing(2, 3), 3);
        is(x.setRing(3, 4), 3);
        is(x.setRing(16, 0xB400), 65535);
        is(x.setRing(16, 0x8000), 16);
        is(x.setRing(5, 31), 6);
        throwsIt(ILLEGAL, () -> x.setRing(1, 1));
        throwsIt(ILLEGAL, () -> x.setRing(17, 1));
        throwsIt(ILLEGAL, () -> x.setRing(4, 0));
        throwsIt(ILLEGAL, () -> x.setRing(4, 16));
        throwsIt(ILLEGAL, () -> x.setRing(4, -1));
        throwsIt(ILLEGAL, () -> x.setRing(MIN, 1));
        throwsIt(ILLEGAL, () -> x.setRing(MAX, 1));

        promise = 33;
        // A ring of 4 bits that goes round by itself gives its bits from the highest one on.
        x.setRing(4, 8);
        is(x.seedFor(0), 1);
        is(x.seedFor(1), 15);
        is(x.seedFor(2), 4);
        is(x.seedFor(3), 0);
        StuckatBench y = net("i i i i i !0", "10000", "1000?");
        y.setRing(4, 8);
        throwsIt(NO_ELEMENT, () -> y.seedFor(0));
        is(y.seedFor(1), 8);
        throwsIt(INDEX, () -> y.seedFor(2));
        throwsIt(INDEX, () -> y.seedFor(-1));
        y.setRing(5, 16);
        is(y.seedFor(0), 16);
        seedsByTrial();

        promise = 34;
        signatures();

        promise = 35;
        StuckatBench a = net("i i b0 b1 !2 !3", "11", "10");
        a.setRing(2, 2);
        is(a.aliased(), aliasedByHand(a));
        is(new StuckatBench().aliased(), 0);
        // The lines 2 and 4 turn the same bit of a ring of two.
        StuckatBench two = net("i i b0 b1 b0 !2 !3 !4", "11", "0?");
        two.setRing(2, 2);
        is(two.aliased(), 2);
        two.setRing(3, 4);
        is(two.aliased(), 0);
        // Both lines turn the bits of a ring that goes round: two fails at one bit are no fails.
        StuckatBench twice = net("i b0 b0 b0 !1 !3", "1");
        twice.setRing(2, 2);
        is(twice.aliased(), aliasedByHand(twice));
        StuckatBench folded = net("i b0 b0 b0 !1 !2 !3", "1");
        folded.setRing(2, 2);
        is(folded.signature(-1), 2);
        is(folded.signature(0), 0);
        StuckatBench even = net("i b0 !0 !1", "1");
        even.setRing(2, 2);
        is(even.signature(0), 0);

        promise = 36;
        chances();
    }

    private static int aliasedByHand(StuckatBench x) {
        int many = 0;
        for (int f = 0; f < x.faults(); f++) {
            if (x.alike(f) == f && x.foundBy(f) != 0 && x.signature(f) == x.signature(-1)) many++;
        }
        return many;
    }

    private static void seedsByTrial() {
        int[][] sets = {{4, 12}, {4, 3}, {5, 20}, {6, 33}, {7, 96}, {3, 5}, {4, 5}, {8, 142}};
        String[] rows = {"1?0?1?", "000000", "?1?1??", "111???", "???001", "010101", "??????", "0?????"};
        StuckatBench x = net("i i i i i i !0", rows);
        for (int[] set : sets) {
            x.setRing(set[0], set[1]);
            for (int p = 0; p < rows.length; p++) {
                int pattern = p;
                int due = seedByTrial(set[0], set[1], rows[p]);
                if (due < 0) {
                    throwsIt(NO_ELEMENT, () -> x.seedFor(pattern));
                } else {
                    is(x.seedFor(p), due);
                }
            }
        }
    }

    private static int seedByTrial(int bits, int taps, String row) {
        for (int seed = 0; seed < 1 << bits; seed++) {
            int ring = seed;
            boolean is = true;
            for (int k = 0; k < row.length(); k++) {
                ring = (ring << 1 | Integer.bitCount(ring & taps) & 1) & (1 << bits) - 1;
                is &= row.charAt(k) == '?' || row.charAt(k) - '0' == (ring & 1);
            }
            if (is) return seed;
        }
        return -1;
    }

    private static void signatures() {
        StuckatBench x = net(AND_OR, "110", "??0", "001");
        x.setRing(3, 4);
        // 1 turns the bit 0; nothing is known; 1 again: 001 -> 010 -> 100 ^ 001.
        is(x.signature(-1), 5);
        is(x.signature(0), 1);
        is(x.signature(8), 0);
        is(x.signature(9), 6 ^ 1);
        is(x.signature(4), 4);
        int bridge = x.bridge('w', 0, 1);
        throwsIt(ILLEGAL, () -> x.signature(bridge));
        throwsIt(INDEX, () -> x.signature(bridge + 1));
        throwsIt(INDEX, () -> x.signature(-2));
        throwsIt(INDEX, () -> x.signature(MIN));
        is(new StuckatBench().signature(-1), 0);
        // The observed lines 0 1 2 3 4 turn the bits 0 1 2 0 1 of a ring of three.
        StuckatBench five = net("i i i i i !0 !1 !2 !3 !4", "11111", "00010");
        five.setRing(3, 4);
        is(five.signature(-1), (4 << 1 & 7 | 1) ^ 1);
        StuckatBench one = net("i i i i i !0 !1 !2 !3 !4", "00001");
        one.setRing(3, 4);
        is(one.signature(-1), 2);
    }

    private static void chances() {
        StuckatBench x = net(AND_OR);
        // The ring goes round 1000 0100: 100, then 010 with what comes next.
        x.setRing(4, 8);
        is(x.chance(0, 200), 1);
        is(x.chance(15, 1), 1);
        is(x.chance(8, 1), classesOf("100"));
        is(x.chance(8, 2), classesOf("100", "010"));
        is(x.chance(8, 3), classesOf("100", "010", "001"));
        is(x.chance(8, 200), classesOf("100", "010", "001", "000"));
        is(x.chance(16 + 8, 2), classesOf("100", "010"));
        is(x.chance(65535, 1), classesOf("111"));
        is(x.patterns(), 0);
        throwsIt(ILLEGAL, () -> x.chance(-1, 1));
        throwsIt(ILLEGAL, () -> x.chance(65536, 1));
        throwsIt(ILLEGAL, () -> x.chance(0, 0));
        throwsIt(ILLEGAL, () -> x.chance(0, 201));
        throwsIt(ILLEGAL, () -> open(AND_OR).chance(0, 201));
        throwsIt(UNSUPPORTED, () -> open(AND_OR).chance(0, 200));
        // A ring that needs more than 64 patterns before the last source is 1 with all ahead of it.
        StuckatBench wide = net("i i i i i i i i a0,1 a8,2 a9,3 a10,4 a11,5 a12,6 a13,7 !14");
        wide.setRing(16, 0xB400);
        is(wide.chance(1, 1), chanceByTrial(wide, 1, 1));
        is(wide.chance(1, 64), chanceByTrial(wide, 1, 64));
        is(wide.chance(1, 65), chanceByTrial(wide, 1, 65));
        is(wide.chance(1234, 200), chanceByTrial(wide, 1234, 200));
    }

    private static int classesOf(String... rows) {
        StuckatBench x = net(AND_OR, rows);
        return Math.round(x.coverage('s') * x.classes());
    }

    private static int chanceByTrial(StuckatBench x, int seed, int many) {
        java.util.Set<Integer> found = new java.util.HashSet<>();
        int ring = seed;
        for (int p = 0; p < many; p++) {
            int ones = 0;
            for (int k = 0; k < 8; k++) {
                ring = (ring << 1 | Integer.bitCount(ring & 0xB400) & 1) & 0xFFFF;
                ones |= (ring & 1) << k;
            }
            StuckatBench one = net("i i i i i i i i a0,1 a8,2 a9,3 a10,4 a11,5 a12,6 a13,7 !14");
            one.pattern(255, ones);
            for (int f = 0; f < one.faults(); f++) {
                if (one.alike(f) == f && one.foundBy(f) != 0) found.add(f);
            }
        }
        return found.size();
    }

    // ---- promises 37 to 39

    private static void counted() {
        promise = 37;
        StuckatBench x = net(AND_OR);
        is(x.weight(0), 4);
        is(x.weight(3), 2);
        is(x.weight(4), 5);
        throwsIt(INDEX, () -> x.weight(5));
        throwsIt(INDEX, () -> x.weight(-1));
        StuckatBench opened = open(AND_OR);
        throwsIt(INDEX, () -> opened.weight(5));
        throwsIt(UNSUPPORTED, () -> opened.weight(4));
        StuckatBench wide = net("i i i i i i i i i i i i a0,11 x12,5 v13 !14");
        is(wide.weight(0), 2048);
        is(wide.weight(5), 2048);
        is(wide.weight(11), 2048);
        is(wide.weight(12), 1024);
        is(wide.weight(13), 2048);
        StuckatBench six = net("i i i i i i a0,5 o6,3 !7");
        is(six.weight(7), 40);
        StuckatBench seven = net("i i i i i i i a0,6 o7,3 !8");
        is(seven.weight(8), 80);
        StuckatBench one = net("i v0 !1");
        is(one.weight(1), 1);
        int[] ofKinds = {1, 3, 3, 1, 2, 2, 2};
        StuckatBench kinds = net("i i a0,1 o0,1 n0,1 r0,1 x0,1 b0 v0 !2");
        for (int k = 0; k < 7; k++) is(kinds.weight(k + 2), ofKinds[k]);

        promise = 38;
        int[] ways = {1, 1, 1, 1, 3, 3, 1, 3, 5, 3};
        for (int f = 0; f < 10; f++) is(x.ways(f), ways[f]);
        int slow = x.slow(0, true);
        throwsIt(ILLEGAL, () -> x.ways(slow));
        throwsIt(INDEX, () -> x.ways(slow + 1));
        throwsIt(INDEX, () -> x.ways(-1));
        is(wide.ways(0), 1024);
        is(wide.ways(wide.faults() - 1), 2048);
        is(net(REDUNDANT).ways(0), 0);

        promise = 39;
        is(x.hardest(), 0);
        // The stems of a and of what it makes alone cannot be found: the fewest, but not none.
        StuckatBench r = net(REDUNDANT);
        int best = -1;
        for (int f = 0; f < r.faults(); f++) {
            boolean isIt = r.alike(f) == f && r.ways(f) > 0;
            if (isIt && (best < 0 || r.ways(f) < r.ways(best))) best = f;
        }
        is(r.hardest(), best);
        is(r.ways(0), 0);
        throwsIt(NO_ELEMENT, () -> new StuckatBench().hardest());
        throwsIt(NO_ELEMENT, () -> open(AND_OR).hardest());
        StuckatBench or = net("i i i o0,1 a3,2 !4");
        is(or.hardest(), 0);
        StuckatBench late = net("i b0 i a1,2 !1 !3");
        is(late.hardest() != 0, true);
    }

    // ---- promises 40 to 46

    private static void chips() {
        promise = 40;
        StuckatBench x = net(AND_OR, "110", "001", "000", "11?");
        int slow = x.slow(0, true);
        throwsIt(INDEX, () -> x.breakChip(slow + 1));
        throwsIt(INDEX, () -> x.breakChip(-1));
        throwsIt(ILLEGAL, () -> x.breakChip(slow));
        is(x.breakChip(9), 1);
        is(x.fails(2), 1L);
        is(x.breakChip(8), 2);
        is(x.fails(0), 1L);
        is(x.fails(2), 0L);
        throwsIt(STATE, () -> x.breakChip(0));
        throwsIt(ILLEGAL, () -> x.breakChip(slow));
        throwsIt(INDEX, () -> x.breakChip(-1));

        promise = 41;
        is(x.mend(), 2);
        is(x.mend(), 0);
        is(x.fails(0), 0L);
        is(x.breakChip(4), 1);
        is(x.mend(), 1);

        promise = 42;
        x.breakChip(0);
        x.breakChip(4);
        is(x.fails(0), 1L);
        is(x.fails(1), 1L);
        is(x.fails(2), 0L);
        is(x.fails(3), 1L);
        x.mend();
        // With d at 0 alone, z is not known where c is not: that is no fail.
        x.breakChip(6);
        is(x.fails(0), 1L);
        is(x.fails(3), 0L);
        throwsIt(INDEX, () -> x.fails(4));
        throwsIt(INDEX, () -> x.fails(-1));
        StuckatBench wide = net("i i v0 v1 b0 !2 !3 !4", "10", "00");
        wide.breakChip(0);
        is(wide.fails(0), 5L);
        is(wide.fails(1), 0L);
        wide.testPoint(0);
        is(wide.fails(0), 1L + 2 + 8);
        wide.breakChip(2);
        is(wide.fails(0), 11L);
        wide.mend();
        wide.breakChip(3);
        is(wide.fails(0), 4L);
        StuckatBench forty = open("i !0");
        for (int k = 1; k < 40; k++) {
            forty.gate('b', k - 1, 0);
            forty.output(k);
        }
        forty.close();
        add(forty, "1");
        forty.breakChip(0);
        is(forty.fails(0), (1L << 40) - 1);

        promise = 43;
        candidates();

        promise = 45;
        tallies();
    }

    private static void candidates() {
        StuckatBench x = net(AND_OR, "110", "001", "000", "010");
        x.breakChip(6);
        // The class of d at 0 fails as the chip; z at 0 fails once more.
        is(x.candidate(0), 0);
        is(x.candidate(1), 8);
        throwsIt(NO_ELEMENT, () -> x.candidate(2));
        throwsIt(NO_ELEMENT, () -> x.candidate(-1));
        throwsIt(NO_ELEMENT, () -> x.candidate(MAX));
        x.mend();
        throwsIt(NO_ELEMENT, () -> x.candidate(0));
        // z at 1 fails at 000 and at 010, a at 1 at 010 alone: as wrong as each other is c at 1.
        x.breakChip(1);
        is(x.candidate(0), 1);
        is(x.candidate(1), 5);
        throwsIt(NO_ELEMENT, () -> x.candidate(2));
        throwsIt(NO_ELEMENT, () -> new StuckatBench().candidate(0));
        // Two that are wrong alike go by their numbers.
        StuckatBench y = net("i i b0 b1 !2 !3", "11");
        y.breakChip(0);
        y.breakChip(2);
        is(y.candidate(0), 0);
        is(y.candidate(1), 2);

        promise = 44;
        is(y.wrong(0), 1);
        is(y.wrong(4), 1);
        is(y.wrong(1), 2);
        is(x.wrong(1), 0);
        is(x.wrong(9), 1);
        is(x.wrong(7), 1);
        is(x.wrong(8), 3);
        is(x.wrong(3), 1);
        x.mend();
        is(x.wrong(8), 2);
        is(x.wrong(0), 1);
        int slow = x.slow(0, true);
        throwsIt(ILLEGAL, () -> x.wrong(slow));
        throwsIt(INDEX, () -> x.wrong(slow + 1));
        throwsIt(INDEX, () -> x.wrong(-1));
    }

    private static void tallies() {
        StuckatBench x = net("i b0 b1 !2", "0", "1");
        throwsIt(NO_ELEMENT, () -> x.record());
        x.breakChip(4);
        is(x.record(), 1);
        is(x.record(), 2);
        x.mend();
        x.breakChip(3);
        is(x.record(), 1);
        throwsIt(NO_ELEMENT, () -> new StuckatBench().record());

        promise = 46;
        is(x.tally(0), 2);
        is(x.tally(2), 2);
        is(x.tally(4), 2);
        is(x.tally(5), 1);
        // As the stem 0 is tested, the class falls apart: its tally was that of its first fault.
        x.testPoint(0);
        is(x.tally(0), 2);
        is(x.tally(2), 0);
        is(x.tally(4), 0);
        x.mend();
        x.breakChip(2);
        is(x.record(), 1);
        is(x.tally(4), 1);
        is(x.tally(0), 2);
        int slow = x.slow(0, true);
        throwsIt(ILLEGAL, () -> x.tally(slow));
        throwsIt(INDEX, () -> x.tally(slow + 1));
        throwsIt(INDEX, () -> x.tally(-1));
    }

    // ---- promises 47 to 50

    private static void chains() {
        promise = 47;
        StuckatBench x = open(CHAIN);
        throwsIt(ILLEGAL, () -> x.breakChain(2, 0));
        throwsIt(UNSUPPORTED, () -> x.breakChain(1, 0));
        throwsIt(UNSUPPORTED, () -> x.breakChain(-1, 1));
        x.close();
        throwsIt(ILLEGAL, () -> x.breakChain(-2, 0));
        throwsIt(ILLEGAL, () -> x.breakChain(2, 0));
        throwsIt(ILLEGAL, () -> x.breakChain(0, 2));
        throwsIt(ILLEGAL, () -> x.breakChain(-1, -1));
        is(x.breakChain(1, 0), -1);
        is(x.breakChain(0, 1), 1);
        is(x.breakChain(-1, 0), 0);
        is(x.breakChain(-1, 0), -1);

        promise = 48;
        // Sources: a, and the cells 0 and 1; they take a unlike cell 0, and not both cells.
        add(x, "110");
        add(x, "0?1");
        is("" + x.seen(0, 0) + x.seen(0, 1) + x.seen(1, 0) + x.seen(1, 1), "0122");
        x.breakChain(0, 0);
        is("" + x.seen(0, 0) + x.seen(0, 1) + x.seen(1, 0) + x.seen(1, 1), "0101");
        x.breakChain(0, 1);
        is("" + x.seen(0, 0) + x.seen(0, 1) + x.seen(1, 0) + x.seen(1, 1), "1010");
        x.breakChain(1, 1);
        is("" + x.seen(0, 0) + x.seen(0, 1) + x.seen(1, 0) + x.seen(1, 1), "1111");
        throwsIt(INDEX, () -> x.seen(2, 0));
        throwsIt(INDEX, () -> x.seen(-1, 0));
        throwsIt(INDEX, () -> x.seen(0, 2));
        throwsIt(INDEX, () -> x.seen(0, -1));
        // A fault in the chip is none in the net that gives the data.
        x.breakChain(-1, 0);
        x.breakChip(x.faults() - 1);
        is("" + x.seen(0, 0) + x.seen(0, 1), "01");

        promise = 49;
        is(x.suspects(), 0);
        StuckatBench row = net("f f f i d0=3 d1=0 d2=1", "1011");
        row.breakChain(1, 0);
        // Broken at 0, all cells are 0 as data come, and the cell 1 would be seen as 0: alike.
        is("" + row.seen(0, 0) + row.seen(0, 1) + row.seen(0, 2), "000");
        is(row.suspects(), 7);
        row.breakChain(1, 1);
        is("" + row.seen(0, 0) + row.seen(0, 1) + row.seen(0, 2), "111");
        is(row.suspects(), 7);
        StuckatBench turned = net("f f f i v0 v1 d0=3 d1=4 d2=5", "1011");
        turned.breakChain(1, 0);
        is("" + turned.seen(0, 0) + turned.seen(0, 1) + turned.seen(0, 2), "001");
        is(turned.suspects(), 2);
        turned.breakChain(2, 0);
        is(turned.suspects(), 4);
        // 2 is like 2 alone.
        StuckatBench dark = net("f i b1 d0=2", "1?");
        dark.breakChain(0, 1);
        is(dark.suspects(), 1);
        is(net(CHAIN).suspects(), 0);
        StuckatBench none = net(CHAIN);
        none.breakChain(0, 1);
        is(none.suspects(), 3);
        StuckatBench unknown = net("f f i d0=2 d1=2", "00?");
        unknown.breakChain(0, 0);
        is("" + unknown.seen(0, 0) + unknown.seen(0, 1), "02");
        is(unknown.suspects(), 1);

        promise = 50;
        is(x.cycles(), 3 * 2 + 2);
        is(net(CHAIN).cycles(), 2);
        is(net("i !0", "1", "0").cycles(), 2);
        is(row.cycles(), 4 + 3);
    }

    // ---- promises 51 to 53

    private static void order() {
        promise = 51;
        StuckatBench x = net(AND_OR, "110", "001", "000", "11?");
        is(x.setTime(0, 99), 1);
        is(x.setTime(0, 3), 99);
        throwsIt(INDEX, () -> x.setTime(4, 0));
        throwsIt(INDEX, () -> x.setTime(-1, 1));
        throwsIt(ILLEGAL, () -> x.setTime(0, 0));
        throwsIt(ILLEGAL, () -> x.setTime(0, 100));
        is(x.setTime(0, 1), 3);
        is(x.setTime(x.make(0), 2), 1);

        promise = 52;
        // 110 finds {d 0, z 0}, 001 {c 0, z 0}, 000 {z 1}, 11? {z 0}.
        StuckatBench y = net(AND_OR, "11?", "000", "001", "110");
        is(orderOf(y), "2130");
        y.setTime(2, 2);
        is(orderOf(y), "3120");
        y.setTime(3, 3);
        // 1/1, 1/1, 2/2, 2/3: the first one of the best; then what z at 0 is found by is less.
        is(orderOf(y), "0123");
        y.setTime(0, 9);
        is(orderOf(y), "1230");
        y.breakChip(6);
        is(y.record(), 1);
        // Now d at 0 counts 2: 1/9, 1/1, 2/2, 3/3.
        is(orderOf(y), "1230");
        is(y.record(), 2);
        // d at 0 counts 3: 1/9, 1/1, 2/2, 4/3.
        is(orderOf(y), "3120");
        throwsIt(NO_ELEMENT, () -> y.orderAt(4));
        throwsIt(NO_ELEMENT, () -> y.orderAt(-1));
        throwsIt(NO_ELEMENT, () -> new StuckatBench().orderAt(0));
        // Compared exactly: 1/99 is more than 0, and what gains nothing goes by numbers.
        StuckatBench z = net("i !0", "1", "0", "1", "0");
        z.setTime(0, 99);
        z.setTime(1, 98);
        z.setTime(2, 99);
        z.setTime(3, 97);
        is(orderOf(z), "3012");

        promise = 53;
        is(y.escapes(0), 2);
        is(y.escapes(1), 0);
        y.mend();
        y.breakChip(9);
        y.setTime(2, 1);
        is(y.record(), 1);
        // d at 0 has the tally 2, z at 1 the tally 1; the first one is found by 110 alone.
        is(orderOf(y), "1230");
        is(y.escapes(0), 3);
        is(y.escapes(1), 2);
        is(y.escapes(2), 2);
        is(y.escapes(3), 0);
        is(y.escapes(4), 0);
        throwsIt(ILLEGAL, () -> y.escapes(5));
        throwsIt(ILLEGAL, () -> y.escapes(-1));
        is(new StuckatBench().escapes(0), 0);
        throwsIt(ILLEGAL, () -> new StuckatBench().escapes(1));
    }

    private static String orderOf(StuckatBench x) {
        StringBuilder text = new StringBuilder();
        for (int index = 0; index < x.patterns(); index++) text.append(x.orderAt(index));
        return text.toString();
    }

    // ---- promises 54 to 58

    private static void marches() {
        promise = 54;
        StuckatBench x = new StuckatBench();
        int many = 0;
        for (char sign : "^v01zo^v01zo^v01zo^v01zo".toCharArray()) {
            many++;
            is(x.march(sign), many);
        }
        throwsIt(STATE, () -> x.march('0'));
        throwsIt(ILLEGAL, () -> x.march('x'));
        throwsIt(ILLEGAL, () -> new StuckatBench().march('V'));
        throwsIt(ILLEGAL, () -> new StuckatBench().march((char) 0));

        promise = 55;
        is(x.eraseMarch(), 24);
        is(x.eraseMarch(), 0);
        is(x.march('^'), 1);
        is(x.eraseMarch(), 1);
        is(x.isRight(), false);

        promise = 56;
        String[] right = {"^", "v", "^v", "^0z", "v1o", "^0^z1vo0", "^0z1o^o", "^vv^1vo0z"};
        String[] wrong = {"0", "z^", "^z", "^o", "^0o", "^0^z1^z", "0^z", "^1v0^o"};
        for (String signs : right) is(marching(signs).isRight(), true);
        for (String signs : wrong) is(marching(signs).isRight(), false);
        is(new StuckatBench().isRight(), false);

        promise = 57;
        marchFaults();

        promise = 58;
        StuckatBench simple = marching("^0^z1vo0");
        is(simple.marchCount('s'), 16);
        is(simple.marchCount('t'), 8);
        is(simple.marchCount('c'), 84);
        is(simple.marchCount('i'), 84);
        is(simple.marchCount('a'), 56);
        // The march C- finds all of them.
        StuckatBench all = marching("^0^z1^o0vz1vo0vz");
        is(all.marchCount('s'), 16);
        is(all.marchCount('t'), 16);
        is(all.marchCount('c'), 224);
        is(all.marchCount('i'), 112);
        is(all.marchCount('a'), 56);
        is(marching("^").marchCount('c'), 0);
        throwsIt(ILLEGAL, () -> all.marchCount('x'));
        throwsIt(ILLEGAL, () -> marching("^z").marchCount('x'));
        throwsIt(UNSUPPORTED, () -> marching("^z").marchCount('s'));
        throwsIt(UNSUPPORTED, () -> new StuckatBench().marchCount('a'));
    }

    private static void marchFaults() {
        StuckatBench x = marching("^0z1o");
        is(x.marchFinds('s', 0, 0, 0, 0), true);
        is(x.marchFinds('s', 7, 99, 1, 99), true);
        is(x.marchFinds('t', 3, -1, 1, -1), true);
        // It holds 1 at first in one of both cases alone.
        is(x.marchFinds('t', 3, 3, 0, 7), false);
        is(x.marchFinds('a', 2, 5, 9, 9), false);
        is(x.marchFinds('c', 2, 5, 1, 1), false);
        throwsIt(ILLEGAL, () -> x.marchFinds('q', 0, 1, 0, 0));
        throwsIt(ILLEGAL, () -> x.marchFinds('s', 8, 0, 0, 0));
        throwsIt(ILLEGAL, () -> x.marchFinds('s', -1, 0, 0, 0));
        throwsIt(ILLEGAL, () -> x.marchFinds('s', 0, 0, 2, 0));
        throwsIt(ILLEGAL, () -> x.marchFinds('t', 0, 0, -1, 0));
        throwsIt(ILLEGAL, () -> x.marchFinds('c', 0, 8, 0, 0));
        throwsIt(ILLEGAL, () -> x.marchFinds('c', 0, -1, 0, 0));
        throwsIt(ILLEGAL, () -> x.marchFinds('c', 3, 3, 0, 0));
        throwsIt(ILLEGAL, () -> x.marchFinds('c', 0, 1, 2, 0));
        throwsIt(ILLEGAL, () -> x.marchFinds('c', 0, 1, 0, 2));
        throwsIt(ILLEGAL, () -> x.marchFinds('i', 0, 1, 2, 0));
        throwsIt(ILLEGAL, () -> x.marchFinds('i', 4, 4, 1, 0));
        throwsIt(ILLEGAL, () -> x.marchFinds('a', 4, 4, 0, 0));
        throwsIt(ILLEGAL, () -> x.marchFinds('a', 0, 8, 0, 0));
        is(x.marchFinds('i', 0, 1, 0, 5), false);
        is(marching("^0z").marchFinds('s', 0, 0, 1, 0), true);
        is(marching("^0z").marchFinds('s', 0, 0, 0, 0), false);
        throwsIt(ILLEGAL, () -> new StuckatBench().marchFinds('s', 0, 0, 2, 0));
        throwsIt(UNSUPPORTED, () -> new StuckatBench().marchFinds('s', 0, 0, 0, 0));
        throwsIt(UNSUPPORTED, () -> marching("^z").marchFinds('a', 0, 1, 0, 0));
        // As 0 rises, what lies behind it upward is turned before it is read.
        StuckatBench y = marching("^0^z1");
        is(y.marchFinds('c', 0, 5, 1, 1), true);
        is(y.marchFinds('c', 5, 0, 1, 1), false);
        is(y.marchFinds('c', 0, 5, 1, 0), false);
        is(y.marchFinds('c', 0, 5, 0, 1), false);
        is(y.marchFinds('i', 0, 5, 1, 0), true);
        is(y.marchFinds('i', 5, 0, 1, 0), false);
        is(y.marchFinds('a', 0, 5, 0, 0), true);
        is(y.marchFinds('a', 5, 0, 0, 0), true);
        StuckatBench down = marching("v0vz1");
        is(down.marchFinds('c', 5, 0, 1, 1), true);
        is(down.marchFinds('c', 0, 5, 1, 1), false);
    }

    // ---- promises 59 and 60

    private static void repairs() {
        promise = 59;
        StuckatBench x = new StuckatBench();
        is(x.bad(0, 0, true), 1);
        is(x.bad(0, 0, true), 1);
        is(x.bad(7, 7, true), 2);
        is(x.bad(0, 0, false), 1);
        is(x.bad(3, 3, false), 1);
        throwsIt(INDEX, () -> x.bad(8, 0, true));
        throwsIt(INDEX, () -> x.bad(-1, 0, true));
        throwsIt(INDEX, () -> x.bad(0, 8, true));
        throwsIt(INDEX, () -> x.bad(0, -1, false));

        promise = 60;
        is(x.repair(1, 0), 128);
        is(x.repair(1, 1), 0);
        is(x.repair(0, 1), 0);
        throwsIt(NO_ELEMENT, () -> x.repair(0, 0));
        is(new StuckatBench().repair(0, 0), 0);
        throwsIt(ILLEGAL, () -> x.repair(9, 0));
        throwsIt(ILLEGAL, () -> x.repair(-1, 0));
        throwsIt(ILLEGAL, () -> x.repair(0, 9));
        throwsIt(ILLEGAL, () -> x.repair(0, -1));
        // Rows 1 and 4 are full: two rows are fewer than eight columns.
        StuckatBench y = new StuckatBench();
        for (int column = 0; column < 8; column++) {
            y.bad(1, column, true);
            y.bad(4, column, true);
        }
        is(y.repair(8, 8), 18);
        is(y.repair(1, 8), 0);
        is(y.repair(2, 0), 18);
        throwsIt(NO_ELEMENT, () -> y.repair(1, 7));
        is(y.bad(6, 2, true), 17);
        is(y.repair(8, 8), 18);
        is(y.repair(3, 0), 18 + 64);
        is(y.repair(2, 1), 18);
    }

    // ---- promises 61 to 66

    private static void boards() {
        promise = 61;
        StuckatBench x = new StuckatBench();
        throwsIt(ILLEGAL, () -> x.board(0, 'a'));
        throwsIt(ILLEGAL, () -> x.board(13, 'a'));
        throwsIt(ILLEGAL, () -> x.board(3, 'x'));
        throwsIt(INDEX, () -> x.openWire(0, 0));
        is(x.board(12, 'a'), 0);
        is(x.board(4, 'o'), 12);
        x.openWire(0, 1);
        x.shortWires(1, 2);
        is(x.badWires('c'), 3);
        is(x.board(4, 'o'), 4);
        is(x.badWires('c'), 0);
        is(x.shortWires(0, 1), 2);

        promise = 62;
        is(x.openWire(3, 1), true);
        is(x.openWire(3, 0), false);
        is(x.got(3, 'c'), 0);
        is(x.openWire(3, 1), false);
        is(x.got(3, 'c'), 7);
        throwsIt(INDEX, () -> x.openWire(4, 2));
        throwsIt(INDEX, () -> x.openWire(-1, 0));
        throwsIt(ILLEGAL, () -> x.openWire(0, 2));
        throwsIt(ILLEGAL, () -> x.openWire(0, -1));

        promise = 63;
        StuckatBench s = new StuckatBench();
        throwsIt(INDEX, () -> s.shortWires(0, 0));
        s.board(6, 'a');
        is(s.shortWires(0, 1), 2);
        is(s.shortWires(0, 1), 2);
        is(s.shortWires(3, 4), 2);
        s.openWire(1, 0);
        is(s.shortWires(5, 1), 3);
        is(s.shortWires(3, 5), 5);
        throwsIt(INDEX, () -> s.shortWires(6, 6));
        throwsIt(INDEX, () -> s.shortWires(0, 6));
        throwsIt(INDEX, () -> s.shortWires(-1, 0));
        throwsIt(ILLEGAL, () -> s.shortWires(2, 2));
        StuckatBench row = new StuckatBench();
        row.board(12, 'o');
        for (int k = 11; k > 0; k--) is(row.shortWires(k, k - 1), 13 - k);

        promise = 64;
        boardCodes();
    }

    private static void boardCodes() {
        StuckatBench x = new StuckatBench();
        x.board(6, 'a');
        // Seven has three bits: 1 to 6 are sent so, and turned over behind them with 't'.
        is(x.got(0, 'c'), 1);
        is(x.got(5, 'c'), 6);
        is(x.got(0, 't'), 1 + 8 * 6);
        is(x.got(5, 't'), 6 + 8);
        x.shortWires(0, 2);
        x.shortWires(2, 4);
        is(x.got(2, 'c'), 1);
        is(x.got(2, 't'), 1);
        x.openWire(2, 1);
        is(x.got(0, 'c'), 1);
        is(x.got(4, 'c'), 5);
        is(x.got(2, 'c'), 7);
        is(x.got(2, 't'), 63);
        throwsIt(INDEX, () -> x.got(6, 'x'));
        throwsIt(INDEX, () -> x.got(-1, 'c'));
        throwsIt(ILLEGAL, () -> x.got(0, 'x'));
        throwsIt(INDEX, () -> new StuckatBench().got(0, 'c'));
        StuckatBench or = new StuckatBench();
        or.board(7, 'o');
        // Eight has four bits.
        or.shortWires(6, 1);
        or.shortWires(0, 3);
        is(or.got(1, 'c'), 7);
        is(or.got(0, 'c'), 5);
        is(or.got(0, 't'), 5 + 16 * 15);
        or.openWire(5, 1);
        is(or.got(5, 'c'), 15);
        StuckatBench first = new StuckatBench();
        first.board(3, 'a');
        first.shortWires(0, 1);
        first.shortWires(0, 2);
        first.openWire(0, 0);
        is("" + first.got(0, 'c') + first.got(1, 'c') + first.got(2, 'c'), "023");
        StuckatBench one = new StuckatBench();
        one.board(1, 'a');
        is(one.got(0, 't'), 1 + 4 * 2);

        promise = 65;
        is(x.badWires('c'), 4);
        is(or.badWires('c'), 1 + 2 + 8 + 32);
        is(or.badWires('t'), 1 + 2 + 8 + 32 + 64);
        is(new StuckatBench().badWires('t'), 0);
        throwsIt(ILLEGAL, () -> x.badWires('x'));
        throwsIt(ILLEGAL, () -> new StuckatBench().badWires('x'));

        promise = 66;
        is(or.sameAs(1, 'c'), 2);
        is(or.sameAs(0, 'c'), 3);
        is(or.sameAs(0, 't'), 2);
        is(or.sameAs(4, 'c'), 3);
        is(or.sameAs(2, 'c'), 1);
        throwsIt(INDEX, () -> or.sameAs(7, 'x'));
        throwsIt(INDEX, () -> or.sameAs(-1, 'c'));
        throwsIt(ILLEGAL, () -> or.sameAs(0, 'x'));
    }

    // ---- promises 67 to 69

    private static void cores() {
        promise = 67;
        StuckatBench x = new StuckatBench();
        int[][] wrong = {{0, 1, 0}, {1000, 1, 0}, {1, 0, 0}, {1, 65, 0}, {1, 1, -1}, {1, 1, 1000}};
        for (int[] w : wrong) throwsIt(ILLEGAL, () -> x.core(w[0], w[1], w[2]));
        int[][] right = {{1, 1, 0}, {999, 64, 999}, {5, 1, 0}, {5, 1, 0}, {5, 1, 0}, {5, 1, 0}};
        for (int k = 0; k < 6; k++) is(x.core(right[k][0], right[k][1], right[k][2]), k);
        throwsIt(STATE, () -> x.core(1, 1, 1));
        throwsIt(ILLEGAL, () -> x.core(0, 1, 1));

        promise = 68;
        is(x.least(64, 999), 1004);
        is(x.least(65, 999), 999);
        is(x.least(MAX, MAX), 999);
        throwsIt(NO_ELEMENT, () -> x.least(63, 999));
        throwsIt(NO_ELEMENT, () -> x.least(64, 998));
        throwsIt(NO_ELEMENT, () -> x.least(MIN, MIN));
        throwsIt(NO_ELEMENT, () -> new StuckatBench().least(9, 9));
        StuckatBench y = new StuckatBench();
        y.core(5, 2, 3);
        y.core(4, 3, 3);
        y.core(6, 2, 3);
        is(y.least(5, 6), 9);
        is(y.least(4, 9), 10);
        is(y.least(7, 9), 6);
        is(y.least(7, 8), 9);
        is(y.least(3, 3), 15);
        StuckatBench free = new StuckatBench();
        free.core(3, 1, 0);
        is(free.least(1, 0), 3);
        throwsIt(NO_ELEMENT, () -> free.least(1, -1));

        promise = 69;
        is(y.begins(5, 6, 0) + "" + y.begins(5, 6, 1) + y.begins(5, 6, 2), "050");
        is(y.begins(7, 9, 0) + "" + y.begins(7, 9, 1) + y.begins(7, 9, 2), "000");
        is(y.begins(3, 3, 0) + "," + y.begins(3, 3, 1) + "," + y.begins(3, 3, 2), "0,5,9");
        is(y.begins(4, 9, 0) + "" + y.begins(4, 9, 1) + y.begins(4, 9, 2), "060");
        throwsIt(INDEX, () -> y.begins(1, 1, 3));
        throwsIt(INDEX, () -> y.begins(5, 6, -1));
        throwsIt(NO_ELEMENT, () -> y.begins(2, 6, 0));
        throwsIt(NO_ELEMENT, () -> y.begins(5, 2, 0));
        throwsIt(INDEX, () -> new StuckatBench().begins(9, 9, 0));
        // Widths of 3 2 1 2 on a bus of 4: the pairs that fit are 0 with 2, and 1 with 3.
        StuckatBench four = new StuckatBench();
        four.core(4, 3, 1);
        four.core(9, 2, 1);
        four.core(4, 1, 1);
        four.core(9, 2, 1);
        is(four.least(4, 2), 13);
        is(four.begins(4, 2, 0) + "," + four.begins(4, 2, 1) + "," + four.begins(4, 2, 2) + "," + four.begins(4, 2, 3),
            "0,4,0,4");
        is(four.least(4, 1), 26);
        // The least end can need an order that does not begin with the core 0.
        StuckatBench five = new StuckatBench();
        int[][] needs = {{1, 3, 0}, {2, 5, 2}, {2, 4, 3}, {8, 2, 2}, {8, 2, 2}};
        for (int[] need : needs) five.core(need[0], need[1], need[2]);
        is(five.least(7, 6), 10);
        is(five.begins(7, 6, 0) + "," + five.begins(7, 6, 1) + "," + five.begins(7, 6, 2) + ","
            + five.begins(7, 6, 3) + "," + five.begins(7, 6, 4), "2,0,8,0,2");
        // None begins ahead of those ahead of it, though there is room: 0 1 2 ends at 12.
        StuckatBench z = new StuckatBench();
        z.core(2, 4, 0);
        z.core(10, 4, 0);
        z.core(2, 1, 0);
        is(z.least(4, 0), 14);
        is(z.least(5, 0), 12);
        is(z.begins(5, 0, 0) + "," + z.begins(5, 0, 1) + "," + z.begins(5, 0, 2), "0,2,2");
    }

    // ---- promise 71

    private static void whole() {
        promise = 71;
        is(new StuckatBench().isSound(), true);
        is(open(AND_OR).isSound(), true);
        StuckatBench x = net(REDUNDANT, "00", "01", "1?", "11");
        x.bridge('d', 3, 4);
        x.slow(1, true);
        is(x.isSound(), true);
        x.breakChip(3);
        is(x.isSound(), true);
        x.tie(0);
        x.testPoint(5);
        is(x.isSound(), true);
        x.breakChip(9);
        is(x.isSound(), true);
    }
}
