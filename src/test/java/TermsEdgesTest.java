/** The edges that the section "Terms" names, and the 512th call: a test for each sentence. */
public final class TermsEdgesTest {
    public static void main(String[] args) {
        Expect.holds("An object is used for at most 512 calls after it has been made", TermsEdgesTest::theLastCall);
        Expect.holds("Time is told in minutes, from 0", TermsEdgesTest::timeFromZero);
        Expect.holds("It has places, 0 to 59, on each of three lanes, 0 to 2", TermsEdgesTest::placesAndLanes);
        Expect.holds("A lantern that drifts beyond the place 59 is lost, if no net was there",
            TermsEdgesTest::beyondTheLastPlace);
        Expect.holds("for each lane, 0 to 2, by how many places lanterns drift in a minute, 1 to 5",
            TermsEdgesTest::leastAndMostCurrent);
        Expect.holds("(3 on the lane 1, 2 on the others, at first)", TermsEdgesTest::firstCurrents);
        Expect.holds("each at a place, 1 to 59, across all lanes, with a spray of 1 to 9",
            TermsEdgesTest::weirsAtTheEnds);
        Expect.holds("There are at most 6, ..; not two at one place.", TermsEdgesTest::sixWeirs);
        Expect.holds("each at a place, 1 to 59, on one lane", TermsEdgesTest::netsAtTheEnds);
        Expect.holds("There are at most 4, ..; not two at one place of a lane.", TermsEdgesTest::fourNets);
        Expect.holds("takes spray of 12 in all; .. takes 8; .. takes 5", TermsEdgesTest::wetByAllThatAFrameTakes);
        Expect.holds("with wax for 20 minutes, .. 30 minutes, .. 45 minutes", TermsEdgesTest::waxOfAFrame);
        Expect.holds("There are 3 kinds, 0 to 2", TermsEdgesTest::threeKinds);
        Expect.holds("There are at most 40 in all, numbered from 0 as they are set afloat",
            TermsEdgesTest::fortyLanterns);
        Expect.holds("each has a frame, a wish, 0 to 999, .. is wet by 0 (at first) or more, and burns (at first) "
            + "or not; it is afloat (0, at first)", TermsEdgesTest::whatALanternIsAtFirst);
        Expect.holds("in a net (1), .. the last two for good", TermsEdgesTest::inANetForGood);
        Expect.holds("or lost (2), the last two for good", TermsEdgesTest::lostForGood);
        Expect.holds("A method that throws an exception changes nothing.", TermsEdgesTest::anExceptionChangesNothing);
        Expect.holds("If several exceptions apply, the one that is named first is thrown.",
            TermsEdgesTest::theFirstOfSeveralExceptions);
        Expect.end();
    }

    private static void theLastCall() {
        LanternWeirs x = new LanternWeirs();
        for (int call = 1; call <= 511; call++) {
            x.pass(90);
        }
        Expect.same("call 512: count(0)", 511 * 90, x.count(0));
        LanternWeirs y = new LanternWeirs();
        for (int call = 1; call <= 511; call++) {
            try {
                y.light(0);
                Expect.same("light(0) without a lantern answers", 0, 1);
            } catch (IndexOutOfBoundsException e) {
                continue;
            }
        }
        Expect.same("call 512 behind refused ones: digest()", new LanternWeirs().digest(), y.digest());
        LanternWeirs z = new LanternWeirs();
        z.setCurrent(2, 1);
        z.net(2, 45);
        for (int call = 3; call <= 42; call++) {
            z.launch(2, 1, 2, 0);
        }
        for (int call = 43; call <= 512; call += 2) {
            Expect.same("call " + call + ": advise(2)", 2, z.advise(2));
            Expect.same("call " + (call + 1) + ": foresee(90, 9)", 40, z.foresee(90, 9));
        }
    }

    private static void timeFromZero() {
        LanternWeirs x = Given.river(1);
        Expect.same("count(0) at first", 0, x.count(0));
        x.launch(0, 0, 0, 59);
        x.pass(1);
        Expect.same("count(0) behind a minute", 1, x.count(0));
        Expect.same("the first minute, told of a lost one", 0, x.told(0, 8));
    }

    private static void placesAndLanes() {
        LanternWeirs x = new LanternWeirs();
        for (int lane = 0; lane <= 2; lane++) {
            for (int place = 0; place <= 59; place += 59) {
                int lantern = x.launch(0, 0, lane, place);
                Expect.same("its lane", lane, x.told(lantern, 2));
                Expect.same("its place", place, x.told(lantern, 3));
                Expect.same("river(" + lane + ", " + place + ", 0)", 1, x.river(lane, place, 0));
            }
        }
        for (int bad : Given.beyond(0, 59)) {
            Expect.outside("launch at the place " + bad, x, () -> x.launch(0, 0, 0, bad));
            Expect.outside("river of the place " + bad, x, () -> x.river(0, bad, 0));
        }
        for (int bad : Given.beyond(0, 2)) {
            Expect.outside("launch on the lane " + bad, x, () -> x.launch(0, 0, bad, 0));
            Expect.outside("river of the lane " + bad, x, () -> x.river(bad, 0, 0));
        }
    }

    private static void beyondTheLastPlace() {
        for (int current = 1; current <= 5; current++) {
            for (int lane = 0; lane <= 2; lane++) {
                String what = "current " + current + ", lane " + lane;
                LanternWeirs x = Given.river(current);
                x.launch(0, 0, lane, 59 - current);
                x.pass(1);
                Expect.same(what + ": to the place 59", 59, x.told(0, 3));
                Expect.same(what + ": afloat there", 0, x.told(0, 7));
                x.pass(1);
                Expect.same(what + ": from the place 59, lost", 2, x.told(0, 7));
                LanternWeirs y = Given.river(current);
                y.net(lane, 59);
                y.net((lane + 1) % 3, 59);
                y.launch(0, 0, lane, current == 1 ? 58 : 60 - current);
                y.launch(0, 0, (lane + 2) % 3, 60 - current);
                y.pass(1);
                Expect.same(what + ": with a net at 59", 1, y.told(0, 7));
                Expect.same(what + ": with nets on the other lanes", 2, y.told(1, 7));
                Expect.same(what + ": the place of a lost one", 60, y.told(1, 3));
            }
        }
    }

    private static void leastAndMostCurrent() {
        for (int current = 1; current <= 5; current++) {
            for (int lane = 0; lane <= 2; lane++) {
                LanternWeirs x = new LanternWeirs();
                x.setCurrent(lane, current);
                x.launch(0, 0, lane, 0);
                x.pass(1);
                Expect.same("current " + current + " on the lane " + lane, current, x.told(0, 3));
            }
        }
    }

    private static void firstCurrents() {
        LanternWeirs x = new LanternWeirs();
        for (int lane = 0; lane <= 2; lane++) {
            x.launch(0, 0, lane, 0);
        }
        x.pass(1);
        Expect.each("a minute from the place 0", x, 3, 2, 3, 2);
    }

    private static void weirsAtTheEnds() {
        LanternWeirs x = Given.river(1);
        x.weir(1, 9);
        x.weir(59, 1);
        for (int lane = 0; lane <= 2; lane++) {
            x.launch(0, 0, lane, 0);
            x.launch(0, 0, lane, 58);
        }
        x.pass(1);
        Expect.each("wet at 1 and at 59, on each lane", x, 5, 9, 1, 9, 1, 9, 1);
        LanternWeirs y = new LanternWeirs();
        for (int bad : Given.beyond(1, 59)) {
            Expect.outside("weir(" + bad + ", 1)", y, () -> y.weir(bad, 1));
        }
        for (int bad : Given.beyond(1, 9)) {
            Expect.wrongArgument("weir(1, " + bad + ")", y, () -> y.weir(1, bad));
        }
    }

    private static void sixWeirs() {
        LanternWeirs x = Given.river(1);
        for (int place = 1; place <= 6; place++) {
            x.weir(place, place);
            int there = place;
            Expect.wrongState("weir(" + there + ", 9), where one is", x, () -> x.weir(there, 9));
        }
        Expect.wrongState("a seventh", x, () -> x.weir(7, 1));
        x.launch(0, 0, 0, 0);
        x.pass(7);
        Expect.same("wet by each of six", 21, x.told(0, 5));
    }

    private static void netsAtTheEnds() {
        for (int lane = 0; lane <= 2; lane++) {
            for (int place = 1; place <= 59; place += 58) {
                LanternWeirs x = Given.river(1);
                x.net(lane, place);
                for (int other = 0; other <= 2; other++) {
                    x.launch(0, 0, other, place - 1);
                }
                x.pass(1);
                for (int other = 0; other <= 2; other++) {
                    String what = "a net on " + lane + " at " + place + ", a lantern on " + other;
                    Expect.same(what, other == lane ? 1 : 0, x.told(other, 7));
                }
            }
        }
        LanternWeirs y = new LanternWeirs();
        for (int bad : Given.beyond(1, 59)) {
            Expect.outside("net(0, " + bad + ")", y, () -> y.net(0, bad));
        }
        for (int bad : Given.beyond(0, 2)) {
            Expect.outside("net(" + bad + ", 1)", y, () -> y.net(bad, 1));
        }
    }

    private static void fourNets() {
        LanternWeirs x = new LanternWeirs();
        Expect.same("the first", 1, x.net(1, 30));
        Expect.wrongState("a second at this place of this lane", x, () -> x.net(1, 30));
        Expect.same("at this place of the lane 0", 2, x.net(0, 30));
        Expect.same("at this place of the lane 2", 3, x.net(2, 30));
        Expect.wrongState("at this place of the lane 2 again", x, () -> x.net(2, 30));
        Expect.same("the fourth, on a lane with one", 4, x.net(2, 31));
        Expect.wrongState("a fifth", x, () -> x.net(2, 32));
    }

    private static void wetByAllThatAFrameTakes() {
        int[] takes = {12, 8, 5};
        for (int frame = 0; frame <= 2; frame++) {
            for (int more = 0; more <= 1; more++) {
                LanternWeirs x = Given.river(1);
                x.weir(1, 4);
                x.weir(2, takes[frame] - 4 + more);
                x.launch(frame, 0, 0, 0);
                x.pass(1);
                Expect.same("frame " + frame + " behind the first weir burns", 1, x.told(0, 6));
                x.pass(1);
                String what = "frame " + frame + ", wet by " + (takes[frame] + more);
                Expect.same(what, takes[frame] + more, x.told(0, 5));
                Expect.same(what + ": burns", 1 - more, x.told(0, 6));
            }
        }
    }

    private static void waxOfAFrame() {
        int[] wax = {20, 30, 45};
        for (int frame = 0; frame <= 2; frame++) {
            LanternWeirs x = Given.river(1);
            x.launch(frame, 0, 0, 0);
            Expect.same("frame " + frame + " at first", wax[frame], x.told(0, 4));
            x.pass(wax[frame] - 1);
            Expect.told("frame " + frame + ", the last wax", x, 0, frame, 0, 0, wax[frame] - 1, 1, 0, 1, 0, -1);
            x.pass(1);
            Expect.told("frame " + frame + ", no wax", x, 0, frame, 0, 0, wax[frame], 0, 0, 0, 0, -1);
        }
    }

    private static void threeKinds() {
        LanternWeirs x = new LanternWeirs();
        for (int bad : Given.beyond(0, 2)) {
            Expect.outside("launch of the frame " + bad, x, () -> x.launch(bad, 0, 0, 0));
            Expect.outside("advise(" + bad + ")", x, () -> x.advise(bad));
        }
        for (int frame = 0; frame <= 2; frame++) {
            Expect.same("the frame " + frame, frame, x.told(x.launch(frame, 0, 0, 0), 0));
        }
    }

    private static void fortyLanterns() {
        LanternWeirs x = Given.river(5);
        x.net(0, 2);
        for (int i = 0; i < 40; i++) {
            Expect.same("number", i, x.launch(i % 3, i, i % 2, 1));
            if (i % 10 == 9) {
                x.pass(20);
            }
        }
        Expect.same("none is afloat", 0, x.count(2));
        Expect.same("some are in the net", 20, x.count(3));
        Expect.same("some are lost", 20, x.count(4));
        Expect.wrongState("one more", x, () -> x.launch(0, 0, 0, 0));
        for (int i = 0; i < 40; i++) {
            Expect.same("the wish of " + i, i, x.told(i, 1));
        }
        for (int bad : Given.beyond(0, 39)) {
            Expect.outside("told(" + bad + ", 0)", x, () -> x.told(bad, 0));
        }
    }

    private static void whatALanternIsAtFirst() {
        LanternWeirs x = new LanternWeirs();
        x.weir(59, 9);
        x.net(2, 59);
        x.launch(0, 0, 0, 0);
        x.launch(1, 999, 2, 59);
        Expect.told("with the least numbers", x, 0, 0, 0, 0, 0, 20, 0, 1, 0, -1);
        Expect.told("with the most, at a weir and a net", x, 1, 1, 999, 2, 59, 30, 0, 1, 0, -1);
        for (int bad : Given.beyond(0, 999)) {
            Expect.wrongArgument("launch with the wish " + bad, x, () -> x.launch(0, bad, 0, 0));
        }
    }

    private static void inANetForGood() {
        LanternWeirs x = Given.river(1);
        x.weir(11, 9);
        x.net(0, 10);
        x.launch(1, 7, 0, 9);
        x.pass(1);
        for (int minutes = 0; minutes < 180; minutes += 90) {
            x.setCurrent(0, 5);
            x.launch(2, 0, 0, 9);
            Expect.wrongState("push", x, () -> x.push(0, 1));
            Expect.wrongState("blow", x, () -> x.blow(0));
            Expect.wrongState("light", x, () -> x.light(0));
            Expect.told("behind " + minutes, x, 0, 1, 7, 0, 10, 30, 0, 1, 1, 0);
            x.pass(90);
        }
        Expect.told("in the net", x, 0, 1, 7, 0, 10, 30, 0, 1, 1, 0);
    }

    private static void lostForGood() {
        LanternWeirs x = Given.river(1);
        x.launch(1, 7, 2, 59);
        x.pass(1);
        x.net(2, 59);
        x.weir(59, 1);
        for (int minutes = 0; minutes < 180; minutes += 90) {
            x.setCurrent(2, 5);
            Expect.wrongState("push", x, () -> x.push(0, 1));
            Expect.wrongState("blow", x, () -> x.blow(0));
            Expect.wrongState("light", x, () -> x.light(0));
            Expect.told("behind " + minutes, x, 0, 1, 7, 2, 60, 30, 0, 0, 2, 0);
            x.pass(90);
        }
        Expect.told("lost", x, 0, 1, 7, 2, 60, 30, 0, 0, 2, 0);
    }

    /** Twice the same river: one of them is asked for what it refuses, and is as the other one all the same. */
    private static void anExceptionChangesNothing() {
        LanternWeirs x = Given.full();
        LanternWeirs y = Given.full();
        Expect.same("0 is in a net", 1, x.told(0, 7));
        Expect.same("1 is lost", 2, x.told(1, 7));
        Expect.same("2 is afloat", 0, x.told(2, 7));
        Expect.same("2 is too wet", 8, x.told(2, 5));
        Expect.wrongArgument("setCurrent(0, 6)", x, () -> x.setCurrent(0, 6));
        Expect.outside("setCurrent(3, 5)", x, () -> x.setCurrent(3, 5));
        Expect.wrongState("weir(16, 9)", x, () -> x.weir(16, 9));
        Expect.wrongArgument("weir(15, 10)", x, () -> x.weir(15, 10));
        Expect.outside("weir(60, 9)", x, () -> x.weir(60, 9));
        Expect.wrongState("net(1, 40)", x, () -> x.net(1, 40));
        Expect.outside("net(1, 60)", x, () -> x.net(1, 60));
        Expect.outside("river(0, 60, 0)", x, () -> x.river(0, 60, 0));
        Expect.wrongState("launch(0, 0, 0, 0)", x, () -> x.launch(0, 0, 0, 0));
        Expect.wrongArgument("launch(0, -1, 0, 0)", x, () -> x.launch(0, -1, 0, 0));
        Expect.outside("launch(0, 0, 0, -1)", x, () -> x.launch(0, 0, 0, -1));
        for (int gone = 0; gone <= 1; gone++) {
            int lantern = gone;
            Expect.wrongState("push(" + gone + ", 0)", x, () -> x.push(lantern, 0));
            Expect.wrongState("light(" + gone + ")", x, () -> x.light(lantern));
            Expect.wrongState("blow(" + gone + ")", x, () -> x.blow(lantern));
        }
        Expect.outside("push(2, 3)", x, () -> x.push(2, 3));
        Expect.wrongState("light(2)", x, () -> x.light(2));
        Expect.wrongState("blow(2)", x, () -> x.blow(2));
        Expect.outside("told(2, 9)", x, () -> x.told(2, 9));
        Expect.outside("next(40)", x, () -> x.next(40));
        Expect.outside("count(10)", x, () -> x.count(10));
        Expect.wrongArgument("pass(91)", x, () -> x.pass(91));
        Expect.outside("burns(40)", x, () -> x.burns(40));
        Expect.wrongArgument("foresee(91, 2)", x, () -> x.foresee(91, 2));
        Expect.outside("foresee(90, 7)", x, () -> x.foresee(90, 7));
        Expect.outside("advise(3)", x, () -> x.advise(3));
        Expect.sameMean("mean()", y.mean(), x.mean());
        for (int minutes = 0; minutes < 30; minutes++) {
            Expect.same("digest() as without them, behind " + minutes, y.digest(), x.digest());
            Expect.same("pass(1) as without them", y.pass(1), x.pass(1));
        }
    }

    /** The full river refuses each weir, net and lantern more by itself already. */
    private static void theFirstOfSeveralExceptions() {
        LanternWeirs x = Given.full();
        Expect.outside("setCurrent(3, 6)", x, () -> x.setCurrent(3, 6));
        Expect.outside("weir(60, 10)", x, () -> x.weir(60, 10));
        Expect.outside("weir(0, 9)", x, () -> x.weir(0, 9));
        Expect.wrongArgument("weir(5, 0), where one is", x, () -> x.weir(5, 0));
        Expect.wrongArgument("weir(6, 10)", x, () -> x.weir(6, 10));
        Expect.outside("net(3, 32)", x, () -> x.net(3, 32));
        Expect.outside("net(0, 0)", x, () -> x.net(0, 0));
        Expect.outside("launch(3, 1000, 0, 0)", x, () -> x.launch(3, 1000, 0, 0));
        Expect.outside("launch(0, 1000, 3, 0)", x, () -> x.launch(0, 1000, 3, 0));
        Expect.outside("launch(0, 1000, 0, 60)", x, () -> x.launch(0, 1000, 0, 60));
        Expect.outside("launch(3, 0, 0, 0)", x, () -> x.launch(3, 0, 0, 0));
        Expect.wrongArgument("launch(0, 1000, 0, 0)", x, () -> x.launch(0, 1000, 0, 0));
        Expect.outside("push(0, 3) of one in a net", x, () -> x.push(0, 3));
        Expect.outside("push(1, -1) of a lost one", x, () -> x.push(1, -1));
        Expect.wrongArgument("foresee(0, 0)", x, () -> x.foresee(0, 0));
        Expect.wrongArgument("foresee(91, 10)", x, () -> x.foresee(91, 10));
    }
}
