/** The edges that the promises 6 to 12 name: a test for each sentence. */
public final class LanternsEdgesTest {
    public static void main(String[] args) {
        Expect.holds("Sets a lantern afloat; it gets neither wet nor into a net where it is set.",
            LanternsEdgesTest::neitherWetNorInANetWhereSet);
        Expect.holds("launch: Returns its number.", LanternsEdgesTest::itsNumber);
        Expect.holds("if frame is not 0 to 2, lane is not 0 to 2, or place is not 0 to 59",
            LanternsEdgesTest::noSuchFrameLaneOrPlace);
        Expect.holds("if wish is not 0 to 999", LanternsEdgesTest::noSuchWish);
        Expect.holds("if there were 40", LanternsEdgesTest::fortyLanterns);
        Expect.holds("Pushes a lantern that is afloat to another lane, at its place; it gets neither wet nor into a "
            + "net by that.", LanternsEdgesTest::pushedNeitherWetNorIntoANet);
        Expect.holds("Returns the lane before.", LanternsEdgesTest::theLaneBefore);
        Expect.holds("if there is no such lantern, or lane is not 0 to 2", LanternsEdgesTest::pushesNoneSuch);
        Expect.holds("push: if it is not afloat", LanternsEdgesTest::pushesNoneThatIsNotAfloat);
        Expect.holds("Lights a lantern that is afloat, dry enough for its frame, and has wax, but does not burn. .. "
            + "Returns its wax.", LanternsEdgesTest::lightsWithTheLastWax);
        Expect.holds("light: if there is no such lantern", LanternsEdgesTest::lightsNoneSuch);
        Expect.holds("light: if it is not afloat, ..", LanternsEdgesTest::lightsNoneThatIsNotAfloat);
        Expect.holds("light: .. burns, ..", LanternsEdgesTest::lightsNoneThatBurns);
        Expect.holds("light: .. is wet by more than its frame takes, ..", LanternsEdgesTest::lightsNoneThatIsTooWet);
        Expect.holds("light: .. or has no wax", LanternsEdgesTest::lightsNoneWithoutWax);
        Expect.holds("Blows a lantern out that is afloat and burns. .. Returns its wax.",
            LanternsEdgesTest::blowsOneOut);
        Expect.holds("blow: if there is no such lantern", LanternsEdgesTest::blowsNoneSuch);
        Expect.holds("blow: if it is not afloat, ..", LanternsEdgesTest::blowsNoneThatIsNotAfloat);
        Expect.holds("blow: .. or does not burn", LanternsEdgesTest::blowsNoneThatDoesNotBurn);
        Expect.holds("3 its place (of one in a net that of the net, of one that is lost 60)",
            LanternsEdgesTest::toldOfThePlace);
        Expect.holds("6 1 if it burns, else 0, 7 0 if it is afloat, 1 if in a net, 2 if lost",
            LanternsEdgesTest::toldOfTheState);
        Expect.holds("8 the minute in which it came into a net or was lost, -1 if it is afloat",
            LanternsEdgesTest::toldOfTheMinute);
        Expect.holds("if there is no such lantern, or what is not 0 to 8", LanternsEdgesTest::toldNothing);
        Expect.holds("Returns the place of the first weir below it, ..", LanternsEdgesTest::firstWeirBelow);
        Expect.holds("whatever becomes of it", LanternsEdgesTest::whateverBecomesOfIt);
        Expect.holds("-1 if there is none, or it is not afloat", LanternsEdgesTest::noWeirBelow);
        Expect.holds("next: if there is no such lantern", LanternsEdgesTest::nextOfNoneSuch);
        Expect.holds("0 the minute, 1 lanterns, 2 those that are afloat, .. 7 weirs, 8 nets, 9 the wishes",
            LanternsEdgesTest::countsNothing);
        Expect.holds("9 the wishes of those in nets that burn, added", LanternsEdgesTest::countsAll);
        Expect.holds("if what is not 0 to 9", LanternsEdgesTest::countsNothingElse);
        Expect.end();
    }

    /** A willow in a net (0), a bamboo that is lost (1), a wire afloat (2). */
    private static LanternWeirs oneOfEach() {
        LanternWeirs x = Given.river(1);
        x.net(0, 10);
        x.launch(0, 5, 0, 9);
        x.launch(1, 6, 1, 59);
        x.launch(2, 7, 2, 20);
        x.pass(1);
        return x;
    }

    private static void neitherWetNorInANetWhereSet() {
        for (int place = 1; place <= 59; place += 58) {
            LanternWeirs x = Given.river(1);
            x.weir(place, 9);
            x.net(1, place);
            x.launch(2, 0, 1, place);
            Expect.told("set at " + place, x, 0, 2, 0, 1, place, 45, 0, 1, 0, -1);
            Expect.same("none is in a net", 0, x.count(3));
            x.pass(1);
            Expect.same("it has drifted on", place + 1, x.told(0, 3));
            Expect.same("not wet", 0, x.told(0, 5));
        }
    }

    private static void itsNumber() {
        LanternWeirs x = Given.river(5);
        for (int i = 0; i < 40; i++) {
            Expect.same("number", i, x.launch(i % 3, 999 - i, i % 3, 59));
            x.pass(1);
        }
        Expect.same("the first is as it was set", 999, x.told(0, 1));
        Expect.same("and so is the last", 960, x.told(39, 1));
    }

    private static void noSuchFrameLaneOrPlace() {
        LanternWeirs x = new LanternWeirs();
        for (int bad : Given.beyond(0, 2)) {
            Expect.outside("launch(" + bad + ", 0, 0, 0)", x, () -> x.launch(bad, 0, 0, 0));
            Expect.outside("launch(0, 0, " + bad + ", 0)", x, () -> x.launch(0, 0, bad, 0));
        }
        for (int bad : Given.beyond(0, 59)) {
            Expect.outside("launch(0, 0, 0, " + bad + ")", x, () -> x.launch(0, 0, 0, bad));
        }
        Expect.same("launch(2, 0, 2, 59)", 0, x.launch(2, 0, 2, 59));
    }

    private static void noSuchWish() {
        LanternWeirs x = new LanternWeirs();
        for (int bad : Given.beyond(0, 999)) {
            Expect.wrongArgument("launch(0, " + bad + ", 0, 0)", x, () -> x.launch(0, bad, 0, 0));
        }
        Expect.same("launch(0, 999, 0, 0)", 0, x.launch(0, 999, 0, 0));
        Expect.same("launch(0, 0, 0, 0)", 1, x.launch(0, 0, 0, 0));
    }

    private static void fortyLanterns() {
        LanternWeirs x = Given.river(1);
        x.net(0, 1);
        for (int i = 0; i < 40; i++) {
            Expect.same("launch", i, x.launch(0, 0, i % 2, i % 2 == 0 ? 0 : 59));
        }
        Expect.wrongState("with 40 afloat", x, () -> x.launch(0, 0, 0, 0));
        x.pass(1);
        Expect.wrongState("with 20 in a net and 20 lost", x, () -> x.launch(0, 0, 0, 0));
        Expect.same("count(1)", 40, x.count(1));
    }

    private static void pushedNeitherWetNorIntoANet() {
        for (int place = 1; place <= 59; place += 58) {
            LanternWeirs x = Given.river(1);
            x.weir(place, 9);
            x.net(2, place);
            x.launch(2, 0, 0, place);
            x.push(0, 2);
            Expect.told("pushed at " + place, x, 0, 2, 0, 2, place, 45, 0, 1, 0, -1);
            x.pass(1);
            Expect.same("it has drifted on", place + 1, x.told(0, 3));
            Expect.same("not wet", 0, x.told(0, 5));
        }
    }

    private static void theLaneBefore() {
        LanternWeirs x = new LanternWeirs();
        x.launch(0, 0, 2, 0);
        int before = 2;
        for (int lane : new int[] {2, 1, 1, 0, 0, 2, 0, 1, 2}) {
            Expect.same("push(0, " + lane + ")", before, x.push(0, lane));
            Expect.same("then its lane", lane, x.told(0, 2));
            Expect.same("then one afloat there", 1, x.river(lane, 0, 0));
            before = lane;
        }
    }

    private static void pushesNoneSuch() {
        LanternWeirs x = oneOfEach();
        for (int bad : Given.beyond(0, 2)) {
            Expect.outside("push(" + bad + ", 0)", x, () -> x.push(bad, 0));
            Expect.outside("push(2, " + bad + ")", x, () -> x.push(2, bad));
        }
    }

    private static void pushesNoneThatIsNotAfloat() {
        LanternWeirs x = oneOfEach();
        for (int i = 0; i <= 2; i++) {
            int lane = i;
            Expect.wrongState("push of one in a net to " + lane, x, () -> x.push(0, lane));
            Expect.wrongState("push of a lost one to " + lane, x, () -> x.push(1, lane));
        }
        Expect.same("push of one that is afloat", 2, x.push(2, 0));
    }

    private static void lightsWithTheLastWax() {
        LanternWeirs x = Given.river(1);
        x.weir(3, 5);
        x.launch(2, 0, 0, 0);
        x.blow(0);
        Expect.same("with all its wax", 45, x.light(0));
        x.pass(44);
        x.blow(0);
        Expect.same("wet by all that it takes", 5, x.told(0, 5));
        Expect.same("with its last wax", 1, x.light(0));
        Expect.same("it burns", 1, x.told(0, 6));
        x.pass(1);
        Expect.same("and then no more", 0, x.told(0, 6));
    }

    private static void lightsNoneSuch() {
        LanternWeirs x = oneOfEach();
        for (int bad : Given.beyond(0, 2)) {
            Expect.outside("light(" + bad + ")", x, () -> x.light(bad));
        }
    }

    private static void lightsNoneThatIsNotAfloat() {
        LanternWeirs x = Given.river(1);
        x.net(0, 10);
        x.launch(0, 0, 0, 9);
        x.launch(0, 0, 1, 59);
        x.blow(0);
        x.pass(1);
        Expect.wrongState("one in a net, dry, with wax", x, () -> x.light(0));
        Expect.wrongState("a lost one, dry, with wax", x, () -> x.light(1));
    }

    private static void lightsNoneThatBurns() {
        LanternWeirs x = oneOfEach();
        Expect.wrongState("one that burns", x, () -> x.light(2));
        x.blow(2);
        Expect.same("one that does not", 44, x.light(2));
        Expect.wrongState("again", x, () -> x.light(2));
    }

    private static void lightsNoneThatIsTooWet() {
        int[] takes = {12, 8, 5};
        for (int frame = 0; frame <= 2; frame++) {
            for (int more = 0; more <= 1; more++) {
                LanternWeirs x = Given.river(1);
                x.weir(1, takes[frame] - 4);
                x.weir(2, 4 + more);
                x.launch(frame, 0, 0, 0);
                x.blow(0);
                x.pass(2);
                String what = "frame " + frame + ", wet by " + (takes[frame] + more);
                if (more == 0) {
                    Expect.same(what, x.told(0, 4), x.light(0));
                } else {
                    Expect.wrongState(what, x, () -> x.light(0));
                }
            }
        }
    }

    private static void lightsNoneWithoutWax() {
        int[] wax = {20, 30, 45};
        for (int frame = 0; frame <= 2; frame++) {
            LanternWeirs x = Given.river(1);
            x.launch(frame, 0, 0, 0);
            x.pass(wax[frame]);
            Expect.same("dry", 0, x.told(0, 5));
            Expect.wrongState("frame " + frame, x, () -> x.light(0));
        }
    }

    private static void blowsOneOut() {
        LanternWeirs x = Given.river(1);
        x.launch(0, 0, 0, 0);
        x.launch(0, 0, 0, 0);
        Expect.same("with all its wax", 20, x.blow(0));
        x.pass(19);
        Expect.same("with its last wax", 1, x.blow(1));
        x.pass(5);
        Expect.each("no wax is used", x, 4, 20, 1);
        Expect.each("does not burn", x, 6, 0, 0);
    }

    private static void blowsNoneSuch() {
        LanternWeirs x = oneOfEach();
        for (int bad : Given.beyond(0, 2)) {
            Expect.outside("blow(" + bad + ")", x, () -> x.blow(bad));
        }
    }

    private static void blowsNoneThatIsNotAfloat() {
        LanternWeirs x = oneOfEach();
        Expect.same("the one in a net burns", 1, x.told(0, 6));
        Expect.wrongState("one in a net", x, () -> x.blow(0));
        Expect.wrongState("a lost one", x, () -> x.blow(1));
    }

    private static void blowsNoneThatDoesNotBurn() {
        LanternWeirs x = Given.river(1);
        x.weir(6, 6);
        x.launch(2, 0, 0, 5);
        x.launch(0, 0, 1, 10);
        x.launch(1, 0, 2, 10);
        x.blow(2);
        Expect.wrongState("one blown out", x, () -> x.blow(2));
        x.pass(20);
        Expect.wrongState("one that is too wet", x, () -> x.blow(0));
        Expect.wrongState("one without wax", x, () -> x.blow(1));
    }

    private static void toldOfThePlace() {
        LanternWeirs x = Given.river(5);
        x.net(0, 1);
        x.net(1, 59);
        x.launch(0, 0, 0, 0);
        x.launch(0, 0, 1, 58);
        x.launch(0, 0, 2, 59);
        x.launch(0, 0, 2, 0);
        Expect.each("at first", x, 3, 0, 58, 59, 0);
        x.pass(1);
        Expect.each("in the net at 1, in that at 59, lost, afloat", x, 3, 1, 59, 60, 5);
    }

    private static void toldOfTheState() {
        LanternWeirs x = Given.river(1);
        x.net(0, 1);
        for (int i = 0; i < 2; i++) {
            x.launch(0, 0, 0, 0);
            x.launch(0, 0, 1, 59);
            x.launch(0, 0, 2, 0);
        }
        for (int i = 3; i < 6; i++) {
            x.blow(i);
        }
        x.pass(1);
        Expect.each("burns", x, 6, 1, 0, 1, 0, 0, 0);
        Expect.each("state", x, 7, 1, 2, 0, 1, 2, 0);
    }

    private static void toldOfTheMinute() {
        LanternWeirs x = Given.river(1);
        x.net(0, 10);
        x.launch(0, 0, 0, 9);
        x.launch(0, 0, 1, 59);
        x.launch(0, 0, 0, 7);
        x.launch(0, 0, 1, 57);
        x.launch(0, 0, 2, 0);
        Expect.each("at first", x, 8, -1, -1, -1, -1, -1);
        x.pass(1);
        Expect.each("the first minute is 0", x, 8, 0, 0, -1, -1, -1);
        x.pass(90);
        Expect.each("behind 91", x, 8, 0, 0, 2, 2, 59);
    }

    private static void toldNothing() {
        LanternWeirs x = oneOfEach();
        for (int bad : Given.beyond(0, 2)) {
            Expect.outside("told(" + bad + ", 8)", x, () -> x.told(bad, 8));
        }
        for (int bad : Given.beyond(0, 8)) {
            Expect.outside("told(2, " + bad + ")", x, () -> x.told(2, bad));
        }
    }

    private static void firstWeirBelow() {
        LanternWeirs x = new LanternWeirs();
        x.weir(59, 1);
        x.weir(1, 1);
        x.weir(30, 1);
        int[] places = {0, 1, 2, 29, 30, 31, 58};
        int[] due = {1, 30, 30, 30, 59, 59, 59};
        for (int i = 0; i < places.length; i++) {
            Expect.same("of one at " + places[i], due[i], x.next(x.launch(0, 0, i % 3, places[i])));
        }
    }

    private static void whateverBecomesOfIt() {
        LanternWeirs x = new LanternWeirs();
        x.weir(50, 1);
        x.net(0, 20);
        x.launch(0, 0, 0, 0);
        Expect.same("one that a net will take ahead of it", 50, x.next(0));
        x.launch(0, 0, 1, 0);
        x.blow(1);
        Expect.same("one that does not burn", 50, x.next(1));
    }

    private static void noWeirBelow() {
        LanternWeirs x = oneOfEach();
        Expect.same("of one that is afloat, without weirs", -1, x.next(2));
        x.launch(0, 0, 0, 59);
        x.weir(59, 1);
        x.weir(1, 1);
        Expect.same("of one at the last weir", -1, x.next(3));
        Expect.same("of one in a net", -1, x.next(0));
        Expect.same("of a lost one", -1, x.next(1));
        Expect.same("of one that is afloat", 59, x.next(2));
    }

    private static void nextOfNoneSuch() {
        LanternWeirs x = oneOfEach();
        for (int bad : Given.beyond(0, 2)) {
            Expect.outside("next(" + bad + ")", x, () -> x.next(bad));
        }
    }

    private static void countsNothing() {
        LanternWeirs x = new LanternWeirs();
        x.pass(7);
        Expect.same("count(0)", 7, x.count(0));
        for (int what = 1; what <= 9; what++) {
            Expect.same("count(" + what + ")", 0, x.count(what));
        }
    }

    /** Forty of the greatest wish in nets, and a river that is full. */
    private static void countsAll() {
        LanternWeirs x = Given.river(1);
        for (int i = 1; i <= 4; i++) {
            x.net(0, i);
        }
        for (int i = 1; i <= 6; i++) {
            x.weir(i * 9, 9);
        }
        for (int i = 0; i < 40; i++) {
            x.launch(1, 999, 0, i % 4);
        }
        x.blow(39);
        int[] afloat = {0, 40, 40, 0, 0, 39, 0, 6, 4, 0};
        int[] inNets = {1, 40, 0, 40, 0, 0, 39, 6, 4, 39 * 999};
        for (int what = 0; what <= 9; what++) {
            Expect.same("count(" + what + "), all afloat", afloat[what], x.count(what));
        }
        x.pass(1);
        for (int what = 0; what <= 9; what++) {
            Expect.same("count(" + what + "), all in nets", inNets[what], x.count(what));
        }
        LanternWeirs y = oneOfEach();
        int[] due = {1, 3, 1, 1, 1, 1, 1, 0, 1, 5};
        for (int what = 0; what <= 9; what++) {
            Expect.same("count(" + what + "), one of each", due[what], y.count(what));
        }
    }

    private static void countsNothingElse() {
        LanternWeirs x = oneOfEach();
        for (int bad : Given.beyond(0, 9)) {
            Expect.outside("count(" + bad + ")", x, () -> x.count(bad));
        }
    }
}
