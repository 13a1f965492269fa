import java.math.BigInteger;

/** The edges that the promises 13 to 18 name: a test for each sentence. */
public final class AheadEdgesTest {
    private static final int[] FORESEEN = {2, 3, 4, 5, 6, 9};
    private static final int[] WAX = {20, 30, 45};

    public static void main(String[] args) {
        Expect.holds("Lets minutes go by. .. how many", AheadEdgesTest::leastAndMostMinutes);
        Expect.holds("Returns how many lanterns come into nets in them.", AheadEdgesTest::howManyComeIntoNets);
        Expect.holds("pass: if minutes is not 1 to 90", AheadEdgesTest::passesNoSuchMinutes);
        Expect.holds("Returns behind how many minutes it does not burn any more, if nothing is done",
            AheadEdgesTest::burnsBehindSoManyMinutes);
        Expect.holds("0 if it does not now", AheadEdgesTest::doesNotBurnNow);
        Expect.holds("at most 60; -1 if it burns then still", AheadEdgesTest::burnsThenStill);
        Expect.holds("burns: (nothing is changed)", () -> changesNothingBy(0));
        Expect.holds("burns: if there is no such lantern", AheadEdgesTest::burnsOfNoneSuch);
        Expect.holds("how many, 1 to 90", AheadEdgesTest::foreseesTheLeastAndTheMost);
        Expect.holds("2, 3, 4, 5, 6 or 9 as count() has it .. behind so many minutes, if nothing is done",
            AheadEdgesTest::foreseesAsCountHasIt);
        Expect.holds("foresee: (nothing is changed)", () -> changesNothingBy(1));
        Expect.holds("foresee: if minutes is not 1 to 90", AheadEdgesTest::foreseesNoSuchMinutes);
        Expect.holds("if what is none of these", AheadEdgesTest::foreseesNothingElse);
        Expect.holds("comes into a net still burning the soonest", AheadEdgesTest::advisesTheSoonest);
        Expect.holds("of several the one with the smallest number", AheadEdgesTest::advisesTheSmallestOfSeveral);
        Expect.holds("still burning .. within 60 minutes", AheadEdgesTest::advisesOfOneStillBurning);
        Expect.holds("a lantern that is set afloat now at the place 0", AheadEdgesTest::advisesWhereItIsSet);
        Expect.holds("(however many there are)", AheadEdgesTest::advisesHoweverManyThereAre);
        Expect.holds("-1 if on none within 60 minutes", AheadEdgesTest::advisesNone);
        Expect.holds("advise: (nothing is changed)", () -> changesNothingBy(2));
        Expect.holds("advise: if frame is not 0 to 2", AheadEdgesTest::advisesOfNoSuchFrame);
        Expect.holds("Returns the mean place of all lanterns that are afloat", AheadEdgesTest::meanOfAllAfloat);
        Expect.holds("0 if there are none", AheadEdgesTest::meanOfNone);
        Expect.holds("A number d starts with 1297", AheadEdgesTest::digestOfANewObject);
        Expect.holds("d becomes d * 31 + x, which wraps around as a 64-bit integer", AheadEdgesTest::digestWrapsAround);
        Expect.holds("what count() tells, in its order; the current of each lane; for each place, from 0 on, ..",
            AheadEdgesTest::digestOfAFullRiver);
        Expect.end();
    }

    private static void leastAndMostMinutes() {
        LanternWeirs x = Given.full();
        LanternWeirs y = Given.full();
        int caught = 0;
        for (int minute = 0; minute < 90; minute++) {
            caught += y.pass(1);
        }
        Expect.same("pass(90) as 90 times pass(1)", caught, x.pass(90));
        Expect.same("then digest()", y.digest(), x.digest());
        Expect.same("then count(0)", 92, x.count(0));
    }

    private static void howManyComeIntoNets() {
        LanternWeirs x = Given.river(1);
        x.net(0, 2);
        x.net(0, 3);
        x.net(1, 30);
        for (int i = 0; i < 38; i++) {
            x.launch(1, 0, 0, i % 2);
        }
        x.launch(0, 0, 1, 0);
        x.launch(0, 0, 2, 0);
        x.blow(0);
        Expect.same("half of them", 19, x.pass(1));
        Expect.same("the other half, one of them out", 19, x.pass(1));
        Expect.same("none", 0, x.pass(1));
        Expect.same("one of two", 1, x.pass(90));
        Expect.same("none any more", 0, x.pass(90));
        LanternWeirs y = Given.river(1);
        y.net(0, 1);
        for (int i = 0; i < 40; i++) {
            y.launch(0, 0, 0, 0);
        }
        Expect.same("all", 40, y.pass(90));
    }

    private static void passesNoSuchMinutes() {
        LanternWeirs x = Given.full();
        for (int bad : Given.beyond(1, 90)) {
            Expect.wrongArgument("pass(" + bad + ")", x, () -> x.pass(bad));
        }
    }

    private static void burnsBehindSoManyMinutes() {
        for (int frame = 0; frame <= 2; frame++) {
            LanternWeirs x = Given.river(1);
            x.launch(frame, 0, 0, 0);
            for (int left = WAX[frame]; left > 0; left--) {
                Expect.same("frame " + frame, left, x.burns(0));
                x.pass(1);
            }
            Expect.same("frame " + frame + " behind that", 0, x.burns(0));
        }
        LanternWeirs y = Given.river(1);
        y.weir(1, 6);
        y.weir(44, 6);
        y.launch(2, 0, 0, 0);
        y.launch(2, 0, 1, 1);
        y.launch(2, 0, 2, 59);
        y.launch(2, 0, 2, 15);
        Expect.same("out by the spray in the first minute", 1, y.burns(0));
        Expect.same("out by the spray of 44", 43, y.burns(1));
        Expect.same("lost in the first minute", 1, y.burns(2));
        Expect.same("out by the spray ahead of being lost", 29, y.burns(3));
    }

    private static void doesNotBurnNow() {
        LanternWeirs x = Given.river(1);
        x.weir(6, 6);
        x.net(2, 20);
        x.launch(0, 0, 0, 0);
        x.launch(0, 0, 1, 59);
        x.launch(2, 0, 0, 5);
        x.launch(2, 0, 2, 19);
        x.blow(0);
        x.blow(3);
        x.pass(1);
        Expect.same("blown out", 0, x.burns(0));
        Expect.same("lost", 0, x.burns(1));
        Expect.same("too wet", 0, x.burns(2));
        Expect.same("out in a net", 0, x.burns(3));
        x.launch(0, 0, 1, 20);
        x.pass(20);
        Expect.same("without wax", 0, x.burns(4));
    }

    private static void burnsThenStill() {
        for (int frame = 0; frame <= 2; frame++) {
            LanternWeirs x = Given.river(1);
            x.net(0, WAX[frame]);
            x.launch(frame, 0, 0, 0);
            Expect.same("comes into a net with its last wax", -1, x.burns(0));
            x.pass(WAX[frame]);
            Expect.same("burns in the net", -1, x.burns(0));
            x.pass(90);
            Expect.same("burns on in it", -1, x.burns(0));
            LanternWeirs y = Given.river(1);
            y.net(0, WAX[frame] + 1);
            y.launch(frame, 0, 0, 0);
            Expect.same("comes into a net a minute too late", WAX[frame], y.burns(0));
        }
    }

    private static long ask(LanternWeirs x, int call, int i) {
        return call == 0 ? x.burns(i) : call == 1 ? x.foresee(1 + i * 2, FORESEEN[i % 6]) : x.advise(i % 3);
    }

    /** Twice the same river: one of them is asked ahead each minute, and is as the other one all the same. */
    private static void changesNothingBy(int call) {
        LanternWeirs x = Given.full();
        LanternWeirs y = Given.full();
        for (int minute = 0; minute < 12; minute++) {
            for (int i = 0; i < 40; i++) {
                long first = ask(x, call, i);
                Expect.same("asked " + i + ", then digest()", y.digest(), x.digest());
                Expect.same("asked " + i + " again", first, ask(x, call, i));
            }
            Expect.sameMean("mean()", y.mean(), x.mean());
            Expect.same("pass(3)", y.pass(3), x.pass(3));
        }
    }

    private static void burnsOfNoneSuch() {
        LanternWeirs x = Given.full();
        for (int bad : Given.beyond(0, 39)) {
            Expect.outside("burns(" + bad + ")", x, () -> x.burns(bad));
        }
        LanternWeirs y = new LanternWeirs();
        Expect.outside("burns(0) without lanterns", y, () -> y.burns(0));
        y.net(0, 5);
        y.advise(0);
        Expect.outside("burns(0) of one that was only advised", y, () -> y.burns(0));
    }

    private static void foreseesTheLeastAndTheMost() {
        LanternWeirs x = Given.river(1);
        x.net(0, 1);
        x.net(1, 59);
        x.launch(0, 7, 0, 0);
        x.launch(0, 20, 1, 0);
        x.launch(0, 400, 2, 0);
        int[] least = {2, 1, 0, 2, 1, 7};
        int[] most = {0, 2, 1, 0, 1, 7};
        for (int i = 0; i < 6; i++) {
            Expect.same("foresee(1, " + FORESEEN[i] + ")", least[i], x.foresee(1, FORESEEN[i]));
            Expect.same("foresee(90, " + FORESEEN[i] + ")", most[i], x.foresee(90, FORESEEN[i]));
        }
        Expect.same("foresee(58, 3)", 1, x.foresee(58, 3));
        Expect.same("foresee(59, 3)", 2, x.foresee(59, 3));
        Expect.same("foresee(59, 4)", 0, x.foresee(59, 4));
        Expect.same("foresee(60, 4)", 1, x.foresee(60, 4));
    }

    private static void foreseesAsCountHasIt() {
        LanternWeirs x = Given.full();
        LanternWeirs y = Given.full();
        for (int minutes = 1; minutes <= 60; minutes++) {
            y.pass(1);
            for (int what : FORESEEN) {
                Expect.same("foresee(" + minutes + ", " + what + ")", y.count(what), x.foresee(minutes, what));
            }
        }
        LanternWeirs z = new LanternWeirs();
        for (int what : FORESEEN) {
            Expect.same("foresee(90, " + what + ") without lanterns", 0, z.foresee(90, what));
        }
    }

    private static void foreseesNoSuchMinutes() {
        LanternWeirs x = Given.full();
        for (int bad : Given.beyond(1, 90)) {
            Expect.wrongArgument("foresee(" + bad + ", 2)", x, () -> x.foresee(bad, 2));
            Expect.wrongArgument("foresee(" + bad + ", 1)", x, () -> x.foresee(bad, 1));
        }
    }

    private static void foreseesNothingElse() {
        LanternWeirs x = Given.full();
        for (int bad : new int[] {0, 1, 7, 8}) {
            Expect.outside("foresee(1, " + bad + ")", x, () -> x.foresee(1, bad));
        }
        for (int bad : Given.beyond(0, 9)) {
            Expect.outside("foresee(90, " + bad + ")", x, () -> x.foresee(90, bad));
        }
    }

    private static void advisesTheSoonest() {
        for (int lane = 0; lane <= 2; lane++) {
            for (int place = 1; place <= 19; place++) {
                LanternWeirs x = Given.river(1);
                x.net(0, place + 1);
                x.net(1, place + 1);
                x.net(2, place + 1);
                x.net(lane, place);
                Expect.same("a place sooner on " + lane, lane, x.advise(0));
            }
        }
        LanternWeirs y = new LanternWeirs();
        y.net(0, 11);
        y.net(1, 12);
        Expect.same("farther, but faster", 1, y.advise(0));
    }

    private static void advisesTheSmallestOfSeveral() {
        LanternWeirs x = Given.river(5);
        x.net(2, 6);
        Expect.same("only the lane 2", 2, x.advise(0));
        x.net(1, 10);
        Expect.same("in two minutes on 1 and on 2", 1, x.advise(0));
        x.net(0, 7);
        Expect.same("in two minutes on each", 0, x.advise(0));
    }

    private static void advisesOfOneStillBurning() {
        for (int frame = 0; frame <= 2; frame++) {
            LanternWeirs x = Given.river(1);
            x.net(1, WAX[frame] + 1);
            Expect.same("frame " + frame + ", a minute too late", -1, x.advise(frame));
            x.net(1, WAX[frame]);
            Expect.same("frame " + frame + ", with its last wax", 1, x.advise(frame));
        }
        int[] takes = {12, 8, 5};
        for (int frame = 0; frame <= 2; frame++) {
            LanternWeirs x = Given.river(1);
            x.weir(2, 4);
            x.weir(3, takes[frame] - 4);
            x.net(2, 4);
            Expect.same("frame " + frame + ", wet by all that it takes", 2, x.advise(frame));
            x.weir(4, 1);
            Expect.same("frame " + frame + ", wet by more in the minute of the net", -1, x.advise(frame));
        }
    }

    private static void advisesWhereItIsSet() {
        LanternWeirs x = Given.river(1);
        x.net(0, 3);
        x.net(1, 3);
        x.launch(0, 0, 0, 0);
        Expect.same("behind one of its own kind", 0, x.advise(0));
        Expect.same("caught for a minute behind one of another kind", 1, x.advise(1));
        Expect.same("none has been set", 1, x.count(1));
        LanternWeirs y = Given.river(1);
        y.net(1, 3);
        y.net(2, 2);
        y.launch(0, 0, 2, 1);
        Expect.same("the one ahead leaves in time", 2, y.advise(1));
        y.launch(2, 0, 2, 1);
        Expect.same("and so do two, into the net", 2, y.advise(1));
        y.launch(2, 0, 2, 0);
        Expect.same("caught for a minute: three on both", 1, y.advise(1));
        y.setCurrent(2, 2);
        Expect.same("in two minutes, but not on the lane 1", 2, y.advise(1));
    }

    private static void advisesHoweverManyThereAre() {
        LanternWeirs x = Given.river(1);
        x.net(2, 5);
        for (int i = 0; i < 40; i++) {
            Expect.same("advise(0) with " + i, 2, x.advise(0));
            x.launch(0, 0, 2, i % 5);
        }
        Expect.same("advise(0) with 40", 2, x.advise(0));
        Expect.same("advise(1) with 40 of another kind", 2, x.advise(1));
        Expect.wrongState("one more all the same", x, () -> x.launch(0, 0, 2, 0));
        x.pass(90);
        Expect.same("advise(0) with 40 in the net", 2, x.advise(0));
    }

    private static void advisesNone() {
        LanternWeirs x = Given.river(1);
        for (int frame = 0; frame <= 2; frame++) {
            Expect.same("advise(" + frame + ") without nets", -1, x.advise(frame));
        }
        for (int place = 57; place <= 59; place++) {
            x.net(place - 57, place);
        }
        for (int frame = 0; frame <= 2; frame++) {
            Expect.same("advise(" + frame + ") with nets too far off", -1, x.advise(frame));
        }
        x.setCurrent(2, 2);
        Expect.same("willow, in 30 minutes", -1, x.advise(0));
        Expect.same("bamboo, in 30 minutes", 2, x.advise(1));
    }

    private static void advisesOfNoSuchFrame() {
        LanternWeirs x = Given.full();
        for (int bad : Given.beyond(0, 2)) {
            Expect.outside("advise(" + bad + ")", x, () -> x.advise(bad));
        }
    }

    private static void meanOfAllAfloat() {
        LanternWeirs x = Given.river(1);
        x.launch(0, 0, 0, 59);
        Expect.sameMean("one at 59", 59.0, x.mean());
        for (int i = 1; i < 40; i++) {
            x.launch(0, 0, i % 3, 0);
        }
        Expect.sameMean("40, one of them at 59", 59.0 / 40.0, x.mean());
        x.pass(1);
        Expect.sameMean("39, and a lost one at 60", 1.0, x.mean());
        x.setCurrent(0, 5);
        x.net(1, 2);
        x.pass(1);
        Expect.sameMean("13 at 6, 13 in a net at 2, 13 at 2", 4.0, x.mean());
        LanternWeirs y = new LanternWeirs();
        y.launch(0, 0, 0, 1);
        y.launch(0, 0, 2, 0);
        Expect.sameMean("no whole number", 0.5, y.mean());
        y.launch(0, 0, 2, 0);
        Expect.sameMean("a third", 1.0 / 3.0, y.mean());
    }

    private static void meanOfNone() {
        LanternWeirs x = Given.river(1);
        Expect.sameMean("without lanterns", 0.0, x.mean());
        x.net(0, 20);
        x.launch(0, 0, 0, 19);
        x.launch(0, 0, 1, 59);
        x.pass(1);
        Expect.sameMean("one in a net and one lost", 0.0, x.mean());
    }

    /** The checksum without a bound, and only its last 64 bits in the end. */
    private static long due(int... numbers) {
        BigInteger d = BigInteger.valueOf(1297);
        for (int x : numbers) {
            d = d.multiply(BigInteger.valueOf(31)).add(BigInteger.valueOf(x));
        }
        return d.longValue();
    }

    private static void digestOfANewObject() {
        int[] numbers = new int[10 + 3 + 60 * 3 * 4];
        numbers[10] = 2;
        numbers[11] = 3;
        numbers[12] = 2;
        Expect.same("digest() of a new object", due(numbers), new LanternWeirs().digest());
    }

    private static void digestWrapsAround() {
        for (int wish = 900; wish <= 999; wish++) {
            LanternWeirs x = new LanternWeirs();
            x.setCurrent(0, 5);
            x.weir(1, 4);
            x.net(2, 59);
            x.launch(2, wish, 0, 0);
            x.launch(0, 7, 1, 59);
            x.pass(1);
            Expect.same("digest() with the wish " + wish, due(numbersWith(wish)), x.digest());
        }
    }

    private static int[] numbersWith(int wish) {
        int[] numbers = new int[10 + 3 + 60 * 3 * 4 + 2 * 10];
        int[] start = {1, 2, 1, 0, 1, 1, 0, 1, 1, 0, 5, 3, 2};
        int[] end = {2, wish, 0, 5, 44, 4, 1, 0, -1, -1, 0, 7, 1, 60, 20, 0, 0, 2, 0, -1};
        System.arraycopy(start, 0, numbers, 0, 13);
        for (int lane = 0; lane <= 2; lane++) {
            numbers[13 + (1 * 3 + lane) * 4 + 1] = 4;
        }
        numbers[13 + (5 * 3 + 0) * 4 + 0] = 1;
        numbers[13 + (59 * 3 + 2) * 4 + 2] = 1;
        System.arraycopy(end, 0, numbers, 13 + 720, 20);
        return numbers;
    }

    private static void digestOfAFullRiver() {
        LanternWeirs x = Given.full();
        for (int minute = 0; minute < 3; minute++) {
            int[] numbers = new int[10 + 3 + 60 * 3 * 4 + 40 * 10];
            for (int what = 0; what <= 9; what++) {
                numbers[what] = x.count(what);
            }
            numbers[10] = 2;
            numbers[11] = 3;
            numbers[12] = 2;
            for (int i = 0; i < 720; i++) {
                numbers[13 + i] = x.river(i / 4 % 3, i / 12, i % 4);
            }
            for (int i = 0; i < 400; i++) {
                numbers[733 + i] = i % 10 == 9 ? x.next(i / 10) : x.told(i / 10, i % 10);
            }
            Expect.same("digest() behind " + minute, due(numbers), x.digest());
            x.pass(1);
        }
    }
}
