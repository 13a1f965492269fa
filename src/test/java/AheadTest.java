/** Promises 14 to 16: burns, foresee and advise. */
public final class AheadTest {
    private static final int[] FAR_OFF = {-1, Integer.MIN_VALUE, Integer.MAX_VALUE};

    public static void main(String[] args) {
        burns();
        burnsOnInANet();
        burnsUntilItIsWetOrLost();
        foresees();
        foreseesAsPassDoes();
        refusesToForesee();
        advises();
        advisesTheSoonest();
        advisesWithinSixtyMinutes();
        advisesOfOneThatBurns();
        advisesWithOthersAbout();
        advisesBeyondTheMostLanterns();
        Expect.end();
    }

    private static void burns() {
        LanternWeirs x = Given.river(1);
        x.launch(0, 0, 0, 0);
        x.launch(1, 0, 1, 0);
        x.launch(2, 0, 2, 0);
        long before = x.digest();
        Expect.same("willow", 20, x.burns(0));
        Expect.same("bamboo", 30, x.burns(1));
        Expect.same("wire", 45, x.burns(2));
        Expect.same("nothing is changed", before, x.digest());
        x.pass(19);
        Expect.same("a last minute", 1, x.burns(0));
        x.blow(1);
        Expect.same("blown out", 0, x.burns(1));
        x.pass(1);
        Expect.same("without wax", 0, x.burns(0));
        for (int bad : FAR_OFF) {
            Expect.outside("burns(" + bad + ")", x, () -> x.burns(bad));
        }
        Expect.outside("burns(3)", x, () -> x.burns(3));
        Expect.outside("burns of a new object", new LanternWeirs(), () -> new LanternWeirs().burns(0));
    }

    private static void burnsOnInANet() {
        LanternWeirs x = Given.river(1);
        x.net(0, 19);
        x.net(1, 20);
        x.net(2, 21);
        for (int lane = 0; lane <= 2; lane++) {
            x.launch(0, 0, lane, 0);
        }
        Expect.same("in the net ahead of the last minute", -1, x.burns(0));
        Expect.same("in the net in the last minute", -1, x.burns(1));
        Expect.same("out ahead of the net", 20, x.burns(2));
        x.pass(90);
        Expect.same("in the net", -1, x.burns(0));
        Expect.same("out in the net", 0, x.burns(2));
    }

    private static void burnsUntilItIsWetOrLost() {
        LanternWeirs x = new LanternWeirs();
        x.weir(24, 9);
        x.launch(1, 0, 0, 0);
        x.launch(2, 0, 1, 45);
        x.launch(1, 0, 2, 57);
        x.net(0, 24);
        Expect.same("out by the spray, in the minute of the net", 12, x.burns(0));
        Expect.same("lost", 5, x.burns(1));
        Expect.same("lost sooner", 2, x.burns(2));
        x.pass(90);
        Expect.same("lost already", 0, x.burns(2));
    }

    private static void foresees() {
        LanternWeirs x = Given.river(1);
        x.net(0, 3);
        x.net(1, 5);
        x.launch(0, 7, 0, 0);
        x.launch(1, 20, 1, 0);
        x.launch(2, 400, 2, 56);
        x.launch(0, 3, 2, 10);
        x.launch(0, 900, 1, 4);
        x.blow(4);
        int[][] due = {{1, 4, 1, 0, 4, 0, 0}, {3, 3, 2, 0, 3, 1, 7}, {4, 2, 2, 1, 2, 1, 7}, {5, 1, 3, 1, 1, 2, 27},
            {19, 1, 3, 1, 1, 2, 27}, {20, 1, 3, 1, 0, 2, 27}, {49, 1, 3, 1, 0, 2, 27}, {50, 0, 3, 2, 0, 2, 27},
            {90, 0, 3, 2, 0, 2, 27}};
        int[] what = {2, 3, 4, 5, 6, 9};
        long before = x.digest();
        for (int[] row : due) {
            for (int i = 0; i < what.length; i++) {
                Expect.same("foresee(" + row[0] + ", " + what[i] + ")", row[i + 1], x.foresee(row[0], what[i]));
            }
        }
        Expect.same("nothing is changed", before, x.digest());
    }

    private static void foreseesAsPassDoes() {
        LanternWeirs x = new LanternWeirs();
        LanternWeirs y = new LanternWeirs();
        for (LanternWeirs each : new LanternWeirs[] {x, y}) {
            each.weir(20, 5);
            each.weir(33, 6);
            each.net(0, 40);
            each.net(2, 55);
            for (int i = 0; i < 40; i++) {
                each.launch(i * 7 % 3, i * 13, i % 3, i * 11 % 50);
            }
        }
        for (int minute = 1; minute <= 40; minute++) {
            y.pass(1);
            for (int what : new int[] {2, 3, 4, 5, 6, 9}) {
                Expect.same("foresee(" + minute + ", " + what + ")", y.count(what), x.foresee(minute, what));
            }
        }
    }

    private static void refusesToForesee() {
        LanternWeirs x = Given.river(1);
        x.launch(0, 0, 0, 0);
        for (int bad : new int[] {0, 91, -1, Integer.MIN_VALUE, Integer.MAX_VALUE}) {
            Expect.wrongArgument("foresee(" + bad + ", 2)", x, () -> x.foresee(bad, 2));
            Expect.wrongArgument("foresee(" + bad + ", 1)", x, () -> x.foresee(bad, 1));
        }
        for (int bad : new int[] {0, 1, 7, 8, 10, -1, Integer.MIN_VALUE, Integer.MAX_VALUE}) {
            Expect.outside("foresee(1, " + bad + ")", x, () -> x.foresee(1, bad));
        }
        Expect.same("foresee(90, 2)", 0, x.foresee(90, 2));
    }

    private static void advises() {
        LanternWeirs x = new LanternWeirs();
        for (int frame = 0; frame <= 2; frame++) {
            Expect.same("advise(" + frame + ") without nets", -1, x.advise(frame));
        }
        for (int bad : FAR_OFF) {
            Expect.outside("advise(" + bad + ")", x, () -> x.advise(bad));
        }
        Expect.outside("advise(3)", x, () -> x.advise(3));
        for (int lane = 0; lane <= 2; lane++) {
            LanternWeirs y = new LanternWeirs();
            y.net(lane, 12);
            long before = y.digest();
            for (int frame = 0; frame <= 2; frame++) {
                Expect.same("advise(" + frame + ") with a net on " + lane, lane, y.advise(frame));
            }
            Expect.same("nothing is changed", before, y.digest());
        }
    }

    private static void advisesTheSoonest() {
        LanternWeirs x = new LanternWeirs();
        x.net(0, 12);
        x.net(1, 18);
        x.net(2, 11);
        Expect.same("six minutes on each", 0, x.advise(0));
        x.setCurrent(2, 3);
        Expect.same("the lane 2 is faster", 2, x.advise(0));
        x.setCurrent(1, 5);
        Expect.same("four minutes on two", 1, x.advise(0));
        x.setCurrent(0, 5);
        Expect.same("three minutes on the lane 0", 0, x.advise(0));
        for (int minutes = 1; minutes < 19; minutes++) {
            LanternWeirs y = Given.river(1);
            y.net(0, minutes + 1);
            y.net(1, minutes);
            y.net(2, minutes);
            Expect.same("the lane 0 a minute later than " + minutes, 1, y.advise(0));
        }
    }

    /** Only wax ends it here: a lantern that drifts a place a minute is at the place 45 with its last wax. */
    private static void advisesWithinSixtyMinutes() {
        int[] wax = {20, 30, 45};
        for (int frame = 0; frame <= 2; frame++) {
            LanternWeirs x = Given.river(1);
            x.net(2, wax[frame]);
            Expect.same("frame " + frame + " in its last minute", 2, x.advise(frame));
            LanternWeirs y = Given.river(1);
            y.net(2, wax[frame] + 1);
            Expect.same("frame " + frame + " a minute too late", -1, y.advise(frame));
        }
    }

    private static void advisesOfOneThatBurns() {
        LanternWeirs x = new LanternWeirs();
        x.weir(4, 6);
        x.net(0, 4);
        x.net(1, 20);
        Expect.same("wire is out on each lane", -1, x.advise(2));
        Expect.same("bamboo comes through", 0, x.advise(1));
        x.weir(3, 3);
        Expect.same("bamboo is out", -1, x.advise(1));
        Expect.same("willow comes through", 0, x.advise(0));
        LanternWeirs y = Given.river(1);
        y.weir(5, 9);
        y.net(0, 5);
        y.net(1, 3);
        Expect.same("the net ahead of the weir", 1, y.advise(2));
    }

    private static void advisesWithOthersAbout() {
        LanternWeirs x = Given.river(1);
        x.net(0, 3);
        x.net(1, 4);
        x.launch(1, 0, 0, 0);
        Expect.same("one of its own kind", 0, x.advise(1));
        x.launch(1, 0, 0, 1);
        x.launch(2, 0, 0, 1);
        x.launch(0, 0, 0, 1);
        Expect.same("others hold it up", 1, x.advise(2));
        LanternWeirs y = Given.river(1);
        y.weir(3, 6);
        y.net(0, 6);
        Expect.same("without shelter", -1, y.advise(2));
        y.launch(2, 0, 0, 1);
        Expect.same("with shelter", 0, y.advise(2));
        LanternWeirs z = Given.river(1);
        z.net(0, 1);
        z.launch(0, 0, 0, 0);
        z.launch(1, 0, 0, 0);
        Expect.same("into the net behind the others", 0, z.advise(2));
    }

    private static void advisesBeyondTheMostLanterns() {
        LanternWeirs x = Given.river(1);
        x.net(1, 2);
        for (int i = 0; i < 40; i++) {
            x.launch(0, 0, 0, 0);
        }
        Expect.same("there are 40", 1, x.advise(0));
        x.net(0, 1);
        Expect.same("all of one kind", 0, x.advise(0));
        Expect.same("still 40", 40, x.count(1));
    }
}
