/** Promises 17 and 18: mean and digest. */
public final class SumsTest {
    public static void main(String[] args) {
        mean();
        newDigest();
        digestOfAllThatIsTold();
        digestAgainAndAgain();
        Expect.end();
    }

    private static void mean() {
        LanternWeirs x = new LanternWeirs();
        Expect.sameMean("no lantern", 0.0, x.mean());
        x.launch(0, 0, 0, 0);
        Expect.sameMean("one at 0", 0.0, x.mean());
        x.launch(0, 0, 1, 59);
        Expect.sameMean("two", 29.5, x.mean());
        x.launch(0, 0, 2, 41);
        Expect.sameMean("three", 100.0 / 3.0, x.mean());
        x.net(2, 43);
        x.pass(1);
        Expect.sameMean("one lost, one in a net", 2.0, x.mean());
        x.blow(0);
        Expect.sameMean("one that does not burn", 2.0, x.mean());
        x.pass(90);
        Expect.sameMean("none afloat", 0.0, x.mean());
    }

    private static long due(LanternWeirs x, int[] currents) {
        long d = 1297;
        for (int what = 0; what <= 9; what++) {
            d = d * 31 + x.count(what);
        }
        for (int current : currents) {
            d = d * 31 + current;
        }
        for (int place = 0; place <= 59; place++) {
            for (int lane = 0; lane <= 2; lane++) {
                for (int what = 0; what <= 3; what++) {
                    d = d * 31 + x.river(lane, place, what);
                }
            }
        }
        for (int lantern = 0; lantern < x.count(1); lantern++) {
            for (int what = 0; what <= 8; what++) {
                d = d * 31 + x.told(lantern, what);
            }
            d = d * 31 + x.next(lantern);
        }
        return d;
    }

    private static void newDigest() {
        LanternWeirs x = new LanternWeirs();
        Expect.same("new", due(x, new int[] {2, 3, 2}), x.digest());
    }

    private static void digestOfAllThatIsTold() {
        LanternWeirs x = new LanternWeirs();
        x.setCurrent(0, 1);
        x.setCurrent(1, 5);
        x.setCurrent(2, 4);
        int[] currents = {1, 5, 4};
        x.weir(7, 2);
        Expect.same("with a weir", due(x, currents), x.digest());
        x.net(1, 9);
        x.net(2, 59);
        Expect.same("with nets", due(x, currents), x.digest());
        for (int i = 0; i < 40; i++) {
            x.launch(i % 3, i * 25, i * 5 % 3, i);
        }
        Expect.same("with lanterns", due(x, currents), x.digest());
        for (int i = 0; i < 20; i++) {
            x.pass(2);
            Expect.same("behind minutes", due(x, currents), x.digest());
        }
    }

    private static void digestAgainAndAgain() {
        LanternWeirs x = new LanternWeirs();
        x.launch(0, 1, 0, 0);
        long first = x.digest();
        Expect.same("again", first, x.digest());
        x.blow(0);
        Expect.same("another behind a change", 1, first != x.digest() ? 1 : 0);
        x.light(0);
        Expect.same("the first when all is as it was", first, x.digest());
    }
}
