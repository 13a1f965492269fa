/** The edges that the promises 1 to 5 name: a test for each sentence. */
public final class RiverEdgesTest {
    public static void main(String[] args) {
        Expect.holds("Creates a river without weirs, nets and lanterns, in the minute 0.", RiverEdgesTest::newObject);
        Expect.holds("Returns its current before.", RiverEdgesTest::currentBefore);
        Expect.holds("its current from now on", RiverEdgesTest::currentFromNowOn);
        Expect.holds("setCurrent: if lane is not 0 to 2", RiverEdgesTest::noSuchLaneForACurrent);
        Expect.holds("if current is not 1 to 5", RiverEdgesTest::noSuchCurrent);
        Expect.holds("Returns how many weirs there are then.", RiverEdgesTest::howManyWeirs);
        Expect.holds("weir: if place is not 1 to 59", RiverEdgesTest::noPlaceForAWeir);
        Expect.holds("if spray is not 1 to 9", RiverEdgesTest::noSuchSpray);
        Expect.holds("if there are 6, or there is one at this place", RiverEdgesTest::sixWeirsOrOneThere);
        Expect.holds("Sets a net; lanterns that are there already float on.", RiverEdgesTest::lanternsThatAreThere);
        Expect.holds("Returns how many nets there are then.", RiverEdgesTest::howManyNets);
        Expect.holds("net: if lane is not 0 to 2, or place is not 1 to 59", RiverEdgesTest::noPlaceForANet);
        Expect.holds("if there are 4, or there is one at this place of this lane", RiverEdgesTest::fourNetsOrOneThere);
        Expect.holds("0 lanterns that are afloat there", RiverEdgesTest::afloatThere);
        Expect.holds("1 the spray of the weir there, 0 without one", RiverEdgesTest::sprayThere);
        Expect.holds("2 1 if there is a net, else 0", RiverEdgesTest::netThere);
        Expect.holds("3 lanterns that are in the net there, 0 without one", RiverEdgesTest::inTheNetThere);
        Expect.holds("if lane is not 0 to 2, place is not 0 to 59, or what is not 0 to 3",
            RiverEdgesTest::nothingOfTheRiver);
        Expect.end();
    }

    private static void newObject() {
        LanternWeirs x = new LanternWeirs();
        for (int what = 0; what <= 9; what++) {
            Expect.same("count(" + what + ")", 0, x.count(what));
        }
        for (int lane = 0; lane <= 2; lane++) {
            for (int place = 0; place <= 59; place++) {
                for (int what = 0; what <= 3; what++) {
                    Expect.same("river(" + lane + ", " + place + ", " + what + ")", 0, x.river(lane, place, what));
                }
            }
        }
        Expect.outside("push(0, 0)", x, () -> x.push(0, 0));
        Expect.outside("light(0)", x, () -> x.light(0));
        Expect.outside("blow(0)", x, () -> x.blow(0));
        Expect.outside("told(0, 0)", x, () -> x.told(0, 0));
        Expect.outside("next(0)", x, () -> x.next(0));
        Expect.outside("burns(0)", x, () -> x.burns(0));
        Expect.same("advise(0)", -1, x.advise(0));
        Expect.same("foresee(90, 2)", 0, x.foresee(90, 2));
        Expect.same("pass(90)", 0, x.pass(90));
        Expect.same("another object is in the minute 0", 0, new LanternWeirs().count(0));
    }

    private static void currentBefore() {
        LanternWeirs x = new LanternWeirs();
        int[] first = {2, 3, 2};
        for (int lane = 0; lane <= 2; lane++) {
            Expect.same("the first of the lane " + lane, first[lane], x.setCurrent(lane, 1));
            for (int current = 2; current <= 5; current++) {
                Expect.same("of the lane " + lane, current - 1, x.setCurrent(lane, current));
            }
            Expect.same("the same again", 5, x.setCurrent(lane, 5));
            Expect.same("the least behind the most", 5, x.setCurrent(lane, 1));
        }
    }

    private static void currentFromNowOn() {
        LanternWeirs x = new LanternWeirs();
        x.launch(0, 0, 0, 0);
        x.launch(0, 0, 1, 0);
        x.setCurrent(0, 5);
        Expect.each("nothing drifts by that", x, 3, 0, 0);
        x.pass(2);
        Expect.each("behind two minutes", x, 3, 10, 6);
        x.setCurrent(0, 1);
        x.pass(2);
        Expect.each("behind four", x, 3, 12, 12);
    }

    private static void noSuchLaneForACurrent() {
        LanternWeirs x = new LanternWeirs();
        for (int bad : Given.beyond(0, 2)) {
            Expect.outside("setCurrent(" + bad + ", 1)", x, () -> x.setCurrent(bad, 1));
        }
    }

    private static void noSuchCurrent() {
        LanternWeirs x = new LanternWeirs();
        for (int bad : Given.beyond(1, 5)) {
            for (int i = 0; i <= 2; i++) {
                int lane = i;
                Expect.wrongArgument("setCurrent(" + lane + ", " + bad + ")", x, () -> x.setCurrent(lane, bad));
            }
        }
    }

    private static void howManyWeirs() {
        LanternWeirs x = new LanternWeirs();
        int[] places = {59, 1, 58, 2, 30, 31};
        for (int i = 0; i < 6; i++) {
            Expect.same("weir(" + places[i] + ", " + (i + 1) + ")", i + 1, x.weir(places[i], i + 1));
            Expect.same("count(7)", i + 1, x.count(7));
        }
        for (int i = 0; i < 6; i++) {
            Expect.same("the spray of " + places[i], i + 1, x.river(0, places[i], 1));
        }
    }

    private static void noPlaceForAWeir() {
        LanternWeirs x = new LanternWeirs();
        for (int bad : Given.beyond(1, 59)) {
            Expect.outside("weir(" + bad + ", 1)", x, () -> x.weir(bad, 1));
        }
        Expect.same("weir(1, 1)", 1, x.weir(1, 1));
        Expect.same("weir(59, 1)", 2, x.weir(59, 1));
    }

    private static void noSuchSpray() {
        LanternWeirs x = new LanternWeirs();
        for (int bad : Given.beyond(1, 9)) {
            Expect.wrongArgument("weir(30, " + bad + ")", x, () -> x.weir(30, bad));
        }
        Expect.same("weir(30, 1)", 1, x.weir(30, 1));
        Expect.same("weir(31, 9)", 2, x.weir(31, 9));
    }

    private static void sixWeirsOrOneThere() {
        LanternWeirs x = new LanternWeirs();
        for (int i = 1; i <= 6; i++) {
            int place = i * 9;
            Expect.same("weir(" + place + ", " + i + ")", i, x.weir(place, i));
            Expect.wrongState("weir(" + place + ", 9) there", x, () -> x.weir(place, 9));
            Expect.same("its spray is what it was", i, x.river(0, place, 1));
        }
        for (int place : new int[] {1, 8, 10, 59}) {
            Expect.wrongState("a seventh at " + place, x, () -> x.weir(place, 1));
        }
        x.pass(90);
        Expect.wrongState("a seventh long behind", x, () -> x.weir(1, 1));
    }

    private static void lanternsThatAreThere() {
        for (int place = 1; place <= 59; place += 29) {
            LanternWeirs x = Given.river(1);
            x.launch(0, 0, 1, place);
            x.launch(0, 0, 1, place - 1);
            x.net(1, place);
            Expect.each("none is in it yet", x, 7, 0, 0);
            Expect.same("none comes but the one behind", 1, x.pass(1));
            Expect.each("the one that was there has floated on", x, 3, place + 1, place);
            Expect.each("one afloat or lost, one in it", x, 7, place == 59 ? 2 : 0, 1);
        }
    }

    private static void howManyNets() {
        LanternWeirs x = new LanternWeirs();
        int[][] nets = {{2, 59}, {0, 1}, {0, 59}, {1, 1}};
        for (int i = 0; i < 4; i++) {
            Expect.same("net(" + nets[i][0] + ", " + nets[i][1] + ")", i + 1, x.net(nets[i][0], nets[i][1]));
            Expect.same("count(8)", i + 1, x.count(8));
        }
    }

    private static void noPlaceForANet() {
        LanternWeirs x = new LanternWeirs();
        for (int bad : Given.beyond(0, 2)) {
            Expect.outside("net(" + bad + ", 30)", x, () -> x.net(bad, 30));
        }
        for (int bad : Given.beyond(1, 59)) {
            for (int i = 0; i <= 2; i++) {
                int lane = i;
                Expect.outside("net(" + lane + ", " + bad + ")", x, () -> x.net(lane, bad));
            }
        }
    }

    private static void fourNetsOrOneThere() {
        LanternWeirs x = new LanternWeirs();
        int[][] nets = {{0, 30}, {1, 30}, {2, 30}, {2, 31}};
        for (int i = 0; i < 4; i++) {
            int[] net = nets[i];
            Expect.same("net(" + net[0] + ", " + net[1] + ")", i + 1, x.net(net[0], net[1]));
            Expect.wrongState("net(" + net[0] + ", " + net[1] + ") there", x, () -> x.net(net[0], net[1]));
        }
        for (int i = 0; i <= 2; i++) {
            int lane = i;
            Expect.wrongState("a fifth on " + lane, x, () -> x.net(lane, 1));
            Expect.wrongState("a fifth on " + lane, x, () -> x.net(lane, 59));
        }
    }

    private static void afloatThere() {
        LanternWeirs x = Given.river(1);
        x.net(0, 1);
        for (int i = 0; i < 40; i++) {
            Expect.same("river(0, 0, 0) with " + i, i, x.river(0, 0, 0));
            x.launch(i % 3, 0, 0, 0);
        }
        Expect.same("all of them", 40, x.river(0, 0, 0));
        x.push(39, 1);
        x.push(38, 2);
        Expect.same("but two", 38, x.river(0, 0, 0));
        Expect.same("one on the lane 1", 1, x.river(1, 0, 0));
        Expect.same("one on the lane 2", 1, x.river(2, 0, 0));
        x.pass(1);
        Expect.same("none where they were", 0, x.river(0, 0, 0));
        Expect.same("those in a net are not afloat", 0, x.river(0, 1, 0));
        Expect.same("one has drifted", 1, x.river(1, 1, 0));
        x.pass(59);
        Expect.same("none at the last place behind all", 0, x.river(1, 59, 0));
        LanternWeirs y = new LanternWeirs();
        int[] places = {0, 30, 59};
        for (int lane = 0; lane <= 2; lane++) {
            for (int frame = 0; frame <= 2; frame++) {
                y.launch(frame, 0, lane, places[lane]);
            }
        }
        for (int lane = 0; lane <= 2; lane++) {
            for (int place = 0; place <= 59; place++) {
                int due = place == places[lane] ? 3 : 0;
                Expect.same("river(" + lane + ", " + place + ", 0)", due, y.river(lane, place, 0));
            }
        }
    }

    private static void sprayThere() {
        LanternWeirs x = new LanternWeirs();
        x.weir(1, 1);
        x.weir(59, 9);
        for (int lane = 0; lane <= 2; lane++) {
            for (int place = 0; place <= 59; place++) {
                int due = place == 1 ? 1 : place == 59 ? 9 : 0;
                Expect.same("river(" + lane + ", " + place + ", 1)", due, x.river(lane, place, 1));
            }
        }
    }

    private static void netThere() {
        LanternWeirs x = new LanternWeirs();
        x.net(0, 59);
        x.net(1, 1);
        x.net(2, 59);
        for (int lane = 0; lane <= 2; lane++) {
            for (int place = 0; place <= 59; place++) {
                int due = place == (lane == 1 ? 1 : 59) ? 1 : 0;
                Expect.same("river(" + lane + ", " + place + ", 2)", due, x.river(lane, place, 2));
            }
        }
    }

    private static void inTheNetThere() {
        LanternWeirs x = Given.river(1);
        x.net(0, 59);
        x.net(0, 58);
        x.net(2, 59);
        for (int i = 0; i < 40; i++) {
            x.launch(0, 0, 0, 58);
        }
        Expect.same("none yet", 0, x.river(0, 59, 3));
        Expect.same("those afloat at a net are not in it", 0, x.river(0, 58, 3));
        x.push(20, 1);
        x.pass(1);
        Expect.same("39 in it", 39, x.river(0, 59, 3));
        Expect.same("none in another net of the lane", 0, x.river(0, 58, 3));
        Expect.same("none in a net of another lane", 0, x.river(2, 59, 3));
        Expect.same("one is afloat where there is none", 0, x.river(1, 59, 3));
        x.pass(90);
        Expect.same("39 stay in it", 39, x.river(0, 59, 3));
        Expect.same("one is lost where there is none", 0, x.river(1, 59, 3));
    }

    private static void nothingOfTheRiver() {
        LanternWeirs x = new LanternWeirs();
        for (int bad : Given.beyond(0, 2)) {
            Expect.outside("river(" + bad + ", 0, 0)", x, () -> x.river(bad, 0, 0));
        }
        for (int bad : Given.beyond(0, 59)) {
            Expect.outside("river(0, " + bad + ", 0)", x, () -> x.river(0, bad, 0));
            Expect.outside("river(1, " + bad + ", 3)", x, () -> x.river(1, bad, 3));
        }
        for (int bad : Given.beyond(0, 3)) {
            Expect.outside("river(0, 0, " + bad + ")", x, () -> x.river(0, 0, bad));
        }
        Expect.same("river(2, 59, 3)", 0, x.river(2, 59, 3));
    }
}
