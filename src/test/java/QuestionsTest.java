/** What only asks changes nothing: a bench answers alike whatever it was asked before. */
public final class QuestionsTest extends Checks {
    private static final Scene[] SCENES = {
        StuckatBench::new,
        () -> open(CHAIN),
        () -> {
            StuckatBench x = net(AND_OR, "110", "11?", "0?0", "001");
            x.bridge('w', 0, 2);
            x.slow(4, false);
            x.setTime(1, 7);
            x.breakChip(6);
            x.record();
            return x;
        },
        () -> {
            StuckatBench x = net(REDUNDANT, "00", "1?", "11", "01");
            x.tie(0);
            x.testPoint(3);
            x.bridge('u', 3, 4);
            x.slow(1, true);
            x.breakChip(2);
            x.breakChip(13);
            x.setRing(3, 5);
            return x;
        },
        () -> {
            StuckatBench x = net(CHAIN, "110", "0?1", "101");
            x.breakChain(1, 1);
            x.breakChip(3);
            return x;
        },
        () -> {
            StuckatBench x = net("i i i i f f i a0,1 o7,2 n3,8 r9,4 x10,5 b11 v12 x13,13 o11,6 d4=14 d5=10 !15 !13", "0000000",
                "1111111", "01?1010", "1010110");
            x.merge(0, x.pattern(0, 0));
            x.bridge('d', 7, 3);
            x.slow(8, true);
            return x;
        },
        () -> {
            StuckatBench x = marching("^0^z1vo0");
            x.bad(1, 2, true);
            x.bad(3, 2, true);
            x.board(7, 'o');
            x.shortWires(1, 5);
            x.shortWires(5, 0);
            x.openWire(5, 0);
            x.openWire(6, 1);
            x.core(5, 2, 3);
            x.core(4, 3, 3);
            x.core(6, 2, 3);
            return x;
        }
    };

    public static void main(String[] args) {
        for (int k = 0; k < SCENES.length; k++) {
            ask("scene " + k, SCENES[k]);
            // The same with a march, a board and cores, and with a march that is not right.
            Scene scene = SCENES[k];
            ask("scene " + k + " amid others", () -> amid(scene));
            ask("scene " + k + " with a wrong march", () -> {
                StuckatBench x = amid(scene);
                x.march('o');
                x.march('z');
                return x;
            });
        }
        end();
    }

    private static void ask(String name, Scene scene) {
        test(0, name + ": asked alone and asked in a row", () -> alike(Told.alone(scene), Told.by(scene)));
        test(0, name + ": asked alone and asked backwards", () -> alike(Told.alone(scene), Told.backwards(scene)));
    }

    private static void alike(String[] alone, String[] others) {
        for (int k = 0; k < alone.length; k++) is(others[k], alone[k]);
    }
}
