/** Promises 1 to 5: a new object, setCurrent, weir, net and river. */
public final class RiverTest {
    public static void main(String[] args) {
        newObject();
        currents();
        weirs();
        mostWeirs();
        nets();
        mostNets();
        tellsTheRiver();
        tellsOfEachPlaceAlone();
        refusesOfRiver();
        Expect.end();
    }

    private static void newObject() {
        LanternWeirs x = new LanternWeirs();
        for (int what = 0; what <= 9; what++) {
            Expect.same("new: count(" + what + ")", 0, x.count(what));
        }
        for (int lane = 0; lane <= 2; lane++) {
            for (int place = 0; place <= 59; place++) {
                for (int what = 0; what <= 3; what++) {
                    Expect.same("new: river(" + lane + ", " + place + ", " + what + ")", 0, x.river(lane, place, what));
                }
            }
        }
        Expect.sameMean("new: mean()", 0.0, x.mean());
    }

    private static void currents() {
        LanternWeirs x = new LanternWeirs();
        Expect.same("first current of lane 0", 2, x.setCurrent(0, 5));
        Expect.same("first current of lane 1", 3, x.setCurrent(1, 1));
        Expect.same("first current of lane 2", 2, x.setCurrent(2, 4));
        Expect.same("second current of lane 0", 5, x.setCurrent(0, 1));
        Expect.same("second current of lane 1", 1, x.setCurrent(1, 5));
        Expect.same("second current of lane 2", 4, x.setCurrent(2, 4));
        for (int lane = 0; lane <= 2; lane++) {
            x.launch(0, 0, lane, 10);
        }
        x.pass(1);
        Expect.same("drift with the current 1", 11, x.told(0, 3));
        Expect.same("drift with the current 5", 15, x.told(1, 3));
        Expect.same("drift with the current 4", 14, x.told(2, 3));
        for (int lane : new int[] {-1, 3, Integer.MIN_VALUE, Integer.MAX_VALUE}) {
            Expect.outside("setCurrent(" + lane + ", 1)", x, () -> x.setCurrent(lane, 1));
            Expect.outside("setCurrent(" + lane + ", 0)", x, () -> x.setCurrent(lane, 0));
        }
        for (int current : new int[] {0, 6, -1, Integer.MIN_VALUE, Integer.MAX_VALUE}) {
            Expect.wrongArgument("setCurrent(2, " + current + ")", x, () -> x.setCurrent(2, current));
        }
    }

    private static void weirs() {
        LanternWeirs x = new LanternWeirs();
        Expect.same("weir(1, 1)", 1, x.weir(1, 1));
        Expect.same("weir(59, 9)", 2, x.weir(59, 9));
        for (int lane = 0; lane <= 2; lane++) {
            Expect.same("spray of 1", 1, x.river(lane, 1, 1));
            Expect.same("spray of 59", 9, x.river(lane, 59, 1));
            Expect.same("spray of 58", 0, x.river(lane, 58, 1));
        }
        for (int place : new int[] {0, 60, -1, Integer.MIN_VALUE, Integer.MAX_VALUE}) {
            Expect.outside("weir(" + place + ", 1)", x, () -> x.weir(place, 1));
            Expect.outside("weir(" + place + ", 0)", x, () -> x.weir(place, 0));
        }
        for (int spray : new int[] {0, 10, -1, Integer.MIN_VALUE, Integer.MAX_VALUE}) {
            Expect.wrongArgument("weir(2, " + spray + ")", x, () -> x.weir(2, spray));
            Expect.wrongArgument("weir(1, " + spray + ")", x, () -> x.weir(1, spray));
        }
        Expect.wrongState("weir(1, 2)", x, () -> x.weir(1, 2));
        Expect.wrongState("weir(59, 9)", x, () -> x.weir(59, 9));
    }

    private static void mostWeirs() {
        LanternWeirs x = new LanternWeirs();
        for (int i = 1; i <= 6; i++) {
            Expect.same("weir " + i, i, x.weir(i * 9, i));
        }
        Expect.wrongState("a seventh weir", x, () -> x.weir(10, 1));
        Expect.outside("a seventh weir at 60", x, () -> x.weir(60, 1));
        Expect.wrongArgument("a seventh weir with a spray of 10", x, () -> x.weir(10, 10));
        Expect.same("count(7)", 6, x.count(7));
    }

    private static void nets() {
        LanternWeirs x = new LanternWeirs();
        x.launch(0, 5, 1, 20);
        Expect.same("net(1, 20)", 1, x.net(1, 20));
        Expect.same("one that is there floats on", 0, x.told(0, 7));
        Expect.same("one that is there is not in the net", 0, x.river(1, 20, 3));
        Expect.same("net(0, 20)", 2, x.net(0, 20));
        Expect.same("net(2, 59)", 3, x.net(2, 59));
        Expect.same("count(8)", 3, x.count(8));
        for (int lane : new int[] {-1, 3, Integer.MIN_VALUE, Integer.MAX_VALUE}) {
            Expect.outside("net(" + lane + ", 20)", x, () -> x.net(lane, 20));
        }
        for (int place : new int[] {0, 60, -1, Integer.MIN_VALUE, Integer.MAX_VALUE}) {
            Expect.outside("net(1, " + place + ")", x, () -> x.net(1, place));
        }
        Expect.wrongState("net(1, 20) again", x, () -> x.net(1, 20));
        x.pass(1);
        Expect.same("one that was there has floated on", 23, x.told(0, 3));
        Expect.same("no lantern is in a net", 0, x.count(3));
    }

    private static void mostNets() {
        LanternWeirs x = new LanternWeirs();
        for (int i = 1; i <= 4; i++) {
            Expect.same("net " + i, i, x.net(i % 3, i));
        }
        Expect.wrongState("a fifth net", x, () -> x.net(0, 50));
        Expect.outside("a fifth net at 0", x, () -> x.net(0, 0));
        Expect.same("count(8)", 4, x.count(8));
    }

    private static void tellsTheRiver() {
        LanternWeirs x = new LanternWeirs();
        x.weir(12, 3);
        x.net(1, 12);
        x.net(0, 11);
        x.launch(0, 1, 1, 9);
        x.launch(0, 1, 1, 9);
        x.launch(1, 1, 2, 9);
        Expect.same("two afloat", 2, x.river(1, 9, 0));
        Expect.same("one afloat", 1, x.river(2, 9, 0));
        Expect.same("none afloat", 0, x.river(0, 9, 0));
        Expect.same("spray", 3, x.river(2, 12, 1));
        Expect.same("net there", 1, x.river(1, 12, 2));
        Expect.same("no net on this lane", 0, x.river(2, 12, 2));
        Expect.same("no net at this place", 0, x.river(1, 11, 2));
        x.pass(1);
        Expect.same("two in the net", 2, x.river(1, 12, 3));
        Expect.same("none afloat where the net is", 0, x.river(1, 12, 0));
        Expect.same("none in the other net", 0, x.river(0, 11, 3));
        Expect.same("none afloat where they were", 0, x.river(1, 9, 0));
        Expect.same("one has drifted", 1, x.river(2, 11, 0));
        x.push(2, 0);
        Expect.same("pushed from there", 0, x.river(2, 11, 0));
        Expect.same("pushed to there", 1, x.river(0, 11, 0));
        Expect.same("not in the net there", 0, x.river(0, 11, 3));
        x.pass(90);
        Expect.same("two stay in the net", 2, x.river(1, 12, 3));
        for (int lane = 0; lane <= 2; lane++) {
            Expect.same("the lost one is at no place", 0, x.river(lane, 59, 0));
        }
    }

    private static void tellsOfEachPlaceAlone() {
        for (int at : new int[] {0, 1, 30, 58, 59}) {
            for (int on = 0; on <= 2; on++) {
                LanternWeirs x = new LanternWeirs();
                for (int frame = 0; frame <= 2; frame++) {
                    x.launch(frame, 0, on, at);
                }
                for (int place = 0; place <= 59; place++) {
                    for (int lane = 0; lane <= 2; lane++) {
                        int due = lane == on && place == at ? 3 : 0;
                        Expect.same("afloat at " + lane + ", " + place, due, x.river(lane, place, 0));
                    }
                }
            }
        }
    }

    private static void refusesOfRiver() {
        LanternWeirs x = new LanternWeirs();
        for (int bad : new int[] {-1, Integer.MIN_VALUE, Integer.MAX_VALUE}) {
            Expect.outside("river(" + bad + ", 0, 0)", x, () -> x.river(bad, 0, 0));
            Expect.outside("river(0, " + bad + ", 0)", x, () -> x.river(0, bad, 0));
            Expect.outside("river(0, 0, " + bad + ")", x, () -> x.river(0, 0, bad));
        }
        Expect.outside("river(3, 0, 0)", x, () -> x.river(3, 0, 0));
        Expect.outside("river(0, 60, 0)", x, () -> x.river(0, 60, 0));
        Expect.outside("river(0, 0, 4)", x, () -> x.river(0, 0, 4));
        Expect.same("river(2, 59, 3)", 0, x.river(2, 59, 3));
    }
}
