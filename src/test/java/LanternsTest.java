/** Promises 6 to 12: launch, push, light, blow, told, next and count. */
public final class LanternsTest {
    private static final int[] FAR_OFF = {-1, Integer.MIN_VALUE, Integer.MAX_VALUE};

    public static void main(String[] args) {
        launches();
        refusesToLaunch();
        pushes();
        blowsAndLights();
        lightsNoneThatIsWet();
        lightsNoneWithoutWax();
        lightsNoneThatHasGone();
        tells();
        findsTheNextWeir();
        counts();
        Expect.end();
    }

    private static void launches() {
        LanternWeirs x = new LanternWeirs();
        x.weir(7, 9);
        x.net(2, 7);
        Expect.same("the first", 0, x.launch(0, 0, 0, 0));
        Expect.same("the second", 1, x.launch(1, 999, 2, 7));
        Expect.same("the third", 2, x.launch(2, 500, 1, 59));
        Expect.told("willow", x, 0, 0, 0, 0, 0, 20, 0, 1, 0, -1);
        Expect.told("bamboo, neither wet nor in the net", x, 1, 1, 999, 2, 7, 30, 0, 1, 0, -1);
        Expect.told("wire", x, 2, 2, 500, 1, 59, 45, 0, 1, 0, -1);
        for (int i = 3; i < 40; i++) {
            Expect.same("lantern " + i, i, x.launch(i % 3, i, i % 3, i));
        }
        Expect.wrongState("a lantern too many", x, () -> x.launch(0, 0, 0, 0));
        Expect.wrongArgument("a lantern too many, with no such wish", x, () -> x.launch(0, 1000, 0, 0));
        Expect.outside("a lantern too many, on no lane", x, () -> x.launch(0, 0, 3, 0));
        x.pass(90);
        Expect.wrongState("a lantern too many, when others are lost", x, () -> x.launch(0, 0, 0, 0));
        Expect.same("count(1)", 40, x.count(1));
    }

    private static void refusesToLaunch() {
        LanternWeirs x = new LanternWeirs();
        for (int bad : FAR_OFF) {
            Expect.outside("launch(" + bad + ", 0, 0, 0)", x, () -> x.launch(bad, 0, 0, 0));
            Expect.wrongArgument("launch(0, " + bad + ", 0, 0)", x, () -> x.launch(0, bad, 0, 0));
            Expect.outside("launch(0, 0, " + bad + ", 0)", x, () -> x.launch(0, 0, bad, 0));
            Expect.outside("launch(0, 0, 0, " + bad + ")", x, () -> x.launch(0, 0, 0, bad));
        }
        Expect.outside("launch(3, 1000, 0, 0)", x, () -> x.launch(3, 1000, 0, 0));
        Expect.outside("launch(0, 1000, 3, 0)", x, () -> x.launch(0, 1000, 3, 0));
        Expect.outside("launch(0, 1000, 0, 60)", x, () -> x.launch(0, 1000, 0, 60));
        Expect.wrongArgument("launch(0, 1000, 0, 0)", x, () -> x.launch(0, 1000, 0, 0));
    }

    private static void pushes() {
        LanternWeirs x = new LanternWeirs();
        x.weir(30, 9);
        x.net(2, 30);
        x.launch(2, 1, 0, 30);
        Expect.same("push(0, 2)", 0, x.push(0, 2));
        Expect.told("pushed to where a weir and a net are", x, 0, 2, 1, 2, 30, 45, 0, 1, 0, -1);
        Expect.same("push to its own lane", 2, x.push(0, 2));
        Expect.same("push(0, 1)", 2, x.push(0, 1));
        x.pass(1);
        Expect.same("it drifts with its lane", 33, x.told(0, 3));
        for (int bad : FAR_OFF) {
            Expect.outside("push(" + bad + ", 0)", x, () -> x.push(bad, 0));
            Expect.outside("push(0, " + bad + ")", x, () -> x.push(0, bad));
        }
        Expect.outside("push(1, 0)", x, () -> x.push(1, 0));
        Expect.outside("push(0, 3)", x, () -> x.push(0, 3));
        x.pass(9);
        Expect.same("it is lost", 2, x.told(0, 7));
        Expect.wrongState("push of a lost one", x, () -> x.push(0, 0));
        Expect.outside("push of a lost one to no lane", x, () -> x.push(0, 3));
        x.launch(0, 1, 2, 29);
        x.pass(1);
        Expect.same("it is in the net", 1, x.told(1, 7));
        Expect.wrongState("push of one in a net", x, () -> x.push(1, 0));
    }

    private static void blowsAndLights() {
        LanternWeirs x = new LanternWeirs();
        x.setCurrent(1, 1);
        x.launch(1, 1, 1, 0);
        Expect.wrongState("light of one that burns", x, () -> x.light(0));
        x.pass(3);
        Expect.same("blow(0)", 27, x.blow(0));
        Expect.same("it does not burn", 0, x.told(0, 6));
        Expect.wrongState("blow of one that does not burn", x, () -> x.blow(0));
        x.pass(5);
        Expect.same("no wax is used", 27, x.told(0, 4));
        Expect.same("it has drifted", 8, x.told(0, 3));
        Expect.same("light(0)", 27, x.light(0));
        Expect.same("it burns", 1, x.told(0, 6));
        x.pass(1);
        Expect.same("wax is used", 26, x.told(0, 4));
        for (int bad : FAR_OFF) {
            Expect.outside("light(" + bad + ")", x, () -> x.light(bad));
            Expect.outside("blow(" + bad + ")", x, () -> x.blow(bad));
        }
        Expect.outside("light(1)", x, () -> x.light(1));
        Expect.outside("blow(1)", x, () -> x.blow(1));
    }

    private static void lightsNoneThatIsWet() {
        int[] takes = {12, 8, 5};
        for (int frame = 0; frame <= 2; frame++) {
            LanternWeirs x = new LanternWeirs();
            x.setCurrent(0, 1);
            x.weir(1, takes[frame] > 9 ? 9 : takes[frame]);
            if (takes[frame] > 9) {
                x.weir(2, takes[frame] - 9);
            }
            x.weir(3, 1);
            x.launch(frame, 0, 0, 0);
            x.pass(2);
            String what = "frame " + frame;
            Expect.same(what + " is wet by all that it takes", takes[frame], x.told(0, 5));
            Expect.same(what + " burns", 1, x.told(0, 6));
            x.blow(0);
            Expect.same(what + " is dry enough to be lit", x.told(0, 4), x.light(0));
            x.pass(1);
            Expect.same(what + " is wet by more", takes[frame] + 1, x.told(0, 5));
            Expect.same(what + " does not burn", 0, x.told(0, 6));
            Expect.same(what + " is afloat", 0, x.told(0, 7));
            Expect.wrongState(what + " is too wet to be lit", x, () -> x.light(0));
            Expect.wrongState(what + " can't be blown out", x, () -> x.blow(0));
        }
    }

    private static void lightsNoneWithoutWax() {
        LanternWeirs x = new LanternWeirs();
        x.setCurrent(0, 1);
        x.launch(0, 0, 0, 0);
        x.pass(19);
        Expect.same("the last minute of wax", 1, x.told(0, 4));
        Expect.same("it burns", 1, x.told(0, 6));
        x.blow(0);
        Expect.same("light with the last wax", 1, x.light(0));
        x.pass(1);
        Expect.same("no wax", 0, x.told(0, 4));
        Expect.same("it does not burn", 0, x.told(0, 6));
        Expect.wrongState("light without wax", x, () -> x.light(0));
    }

    private static void lightsNoneThatHasGone() {
        LanternWeirs x = new LanternWeirs();
        x.net(0, 59);
        x.launch(0, 0, 0, 56);
        x.launch(0, 0, 1, 59);
        x.launch(0, 0, 0, 57);
        x.blow(2);
        x.pass(2);
        Expect.same("one in the net burns", 1, x.told(0, 6));
        Expect.wrongState("blow of one in a net", x, () -> x.blow(0));
        Expect.same("one in the net does not burn", 0, x.told(2, 6));
        Expect.wrongState("light of one in a net", x, () -> x.light(2));
        Expect.wrongState("light of a lost one", x, () -> x.light(1));
        Expect.wrongState("blow of a lost one", x, () -> x.blow(1));
    }

    private static void tells() {
        LanternWeirs x = new LanternWeirs();
        x.weir(22, 2);
        x.net(1, 24);
        x.launch(0, 11, 1, 20);
        x.launch(1, 12, 0, 20);
        x.launch(2, 13, 2, 57);
        x.pass(1);
        Expect.told("drifted over a weir", x, 0, 0, 11, 1, 23, 19, 2, 1, 0, -1);
        Expect.told("drifted to a weir", x, 1, 1, 12, 0, 22, 29, 2, 1, 0, -1);
        Expect.told("drifted to the last place", x, 2, 2, 13, 2, 59, 44, 0, 1, 0, -1);
        x.pass(1);
        Expect.told("in a net", x, 0, 0, 11, 1, 24, 19, 2, 1, 1, 1);
        Expect.told("drifted on", x, 1, 1, 12, 0, 24, 28, 2, 1, 0, -1);
        Expect.told("lost", x, 2, 2, 13, 2, 60, 44, 0, 0, 2, 1);
        x.pass(1);
        Expect.told("still in the net", x, 0, 0, 11, 1, 24, 19, 2, 1, 1, 1);
        Expect.told("still lost", x, 2, 2, 13, 2, 60, 44, 0, 0, 2, 1);
        for (int bad : FAR_OFF) {
            Expect.outside("told(" + bad + ", 0)", x, () -> x.told(bad, 0));
            Expect.outside("told(0, " + bad + ")", x, () -> x.told(0, bad));
        }
        Expect.outside("told(3, 0)", x, () -> x.told(3, 0));
        Expect.outside("told(0, 9)", x, () -> x.told(0, 9));
    }

    private static void findsTheNextWeir() {
        LanternWeirs x = new LanternWeirs();
        x.launch(0, 0, 0, 0);
        Expect.same("no weir", -1, x.next(0));
        x.weir(40, 1);
        x.weir(12, 1);
        x.weir(59, 1);
        x.launch(0, 0, 1, 11);
        x.launch(0, 0, 2, 12);
        x.launch(0, 0, 2, 40);
        x.launch(0, 0, 0, 59);
        x.net(1, 30);
        int[] due = {12, 12, 40, 59, -1};
        for (int i = 0; i < due.length; i++) {
            Expect.same("next(" + i + ")", due[i], x.next(i));
        }
        x.pass(7);
        Expect.same("one in a net", 1, x.told(1, 7));
        Expect.same("next of one in a net", -1, x.next(1));
        x.pass(50);
        Expect.same("next of a lost one", -1, x.next(0));
        for (int bad : FAR_OFF) {
            Expect.outside("next(" + bad + ")", x, () -> x.next(bad));
        }
        Expect.outside("next(5)", x, () -> x.next(5));
    }

    private static void counts() {
        LanternWeirs x = new LanternWeirs();
        x.weir(5, 1);
        x.weir(6, 9);
        x.net(0, 50);
        x.net(1, 50);
        x.net(2, 59);
        x.launch(0, 1, 0, 49);
        x.launch(1, 2, 1, 49);
        x.launch(2, 4, 0, 47);
        x.launch(2, 8, 1, 59);
        x.launch(0, 16, 2, 30);
        x.launch(0, 32, 2, 20);
        x.launch(0, 64, 2, 10);
        x.blow(1);
        x.blow(5);
        x.pass(2);
        long[] due = {2, 7, 3, 3, 1, 2, 2, 2, 3, 5};
        for (int what = 0; what < due.length; what++) {
            Expect.same("count(" + what + ")", due[what], x.count(what));
        }
        for (int bad : FAR_OFF) {
            Expect.outside("count(" + bad + ")", x, () -> x.count(bad));
        }
        Expect.outside("count(10)", x, () -> x.count(10));
    }
}
