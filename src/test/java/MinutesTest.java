/** How a minute goes (Terms), and promise 13, pass. */
public final class MinutesTest {
    public static void main(String[] args) {
        passes();
        catchesOnAnotherFrame();
        goesPastItsOwnFrame();
        catchesOnOneAmongSeveral();
        catchesForTheRestOfTheMinute();
        farthestDownGoesFirst();
        smallestLaneAndNumberGoFirst();
        orderIsTheOneAhead();
        wetByTheSprayLessTheShelter();
        shelterIsOfThreePlacesOnTheLane();
        shelterOfAnyOne();
        setWhereAWeirIs();
        netTakesBehindTheWeir();
        netTakesOnlyOnItsLane();
        lastPlaceAndBeyond();
        thoseThatDoNotBurn();
        netsUseNoWax();
        Expect.end();
    }

    private static void passes() {
        LanternWeirs x = Given.river(1);
        x.net(0, 10);
        x.net(1, 3);
        x.launch(0, 0, 0, 9);
        x.launch(0, 0, 0, 8);
        x.launch(0, 0, 1, 0);
        x.launch(0, 0, 2, 0);
        Expect.same("pass(1)", 1, x.pass(1));
        Expect.same("the minute", 1, x.count(0));
        Expect.same("pass(2)", 2, x.pass(2));
        Expect.same("the minute", 3, x.count(0));
        Expect.same("pass(90)", 0, x.pass(90));
        Expect.same("the minute", 93, x.count(0));
        for (int bad : new int[] {0, 91, -1, Integer.MIN_VALUE, Integer.MAX_VALUE}) {
            Expect.wrongArgument("pass(" + bad + ")", x, () -> x.pass(bad));
        }
    }

    private static void catchesOnAnotherFrame() {
        LanternWeirs x = new LanternWeirs();
        x.setCurrent(0, 1);
        x.setCurrent(1, 5);
        x.launch(0, 0, 0, 5);
        x.launch(1, 0, 1, 6);
        x.launch(2, 0, 0, 6);
        x.pass(1);
        Expect.same("the one ahead has gone on", 7, x.told(2, 3));
        Expect.same("so none is at the next place", 6, x.told(0, 3));
        Expect.same("another lane is free", 11, x.told(1, 3));
        x.setCurrent(0, 2);
        x.pass(1);
        Expect.same("the one ahead, by 2", 9, x.told(2, 3));
        Expect.same("the one behind, by 2", 8, x.told(0, 3));
        x.launch(0, 0, 0, 10);
        x.launch(1, 0, 0, 11);
        x.launch(0, 0, 0, 12);
        x.launch(2, 0, 0, 13);
        x.launch(1, 0, 0, 14);
        x.setCurrent(0, 1);
        x.net(0, 15);
        x.pass(1);
        Expect.same("the first comes into the net", 1, x.told(7, 7));
        Expect.same("one in a net is nothing to catch on", 14, x.told(6, 3));
    }

    private static void goesPastItsOwnFrame() {
        for (int frame = 0; frame <= 2; frame++) {
            LanternWeirs x = new LanternWeirs();
            x.setCurrent(1, 1);
            x.launch(frame, 0, 1, 20);
            x.launch((frame + 1) % 3, 0, 1, 21);
            x.launch((frame + 1) % 3, 0, 1, 22);
            x.setCurrent(1, 3);
            x.pass(1);
            Expect.same("frame " + frame + ": the first", 25, x.told(2, 3));
            Expect.same("frame " + frame + ": its own kind passes into it", 24, x.told(1, 3));
            Expect.same("frame " + frame + ": the last", 23, x.told(0, 3));
            x.push(1, 0);
            x.launch(frame, 0, 1, 24);
            x.setCurrent(1, 1);
            x.pass(1);
            Expect.same("frame " + frame + ": onto no other kind", 24, x.told(0, 3));
        }
    }

    /** Lanterns at one place: those that go first leave, so that only one that stays can be caught on. */
    private static void catchesOnOneAmongSeveral() {
        LanternWeirs x = new LanternWeirs();
        x.setCurrent(0, 1);
        x.launch(0, 0, 0, 10);
        x.launch(0, 0, 0, 11);
        x.launch(1, 0, 0, 11);
        x.launch(0, 0, 0, 12);
        x.launch(2, 0, 0, 13);
        x.launch(0, 0, 0, 14);
        x.pass(1);
        Expect.same("14 to 15", 15, x.told(5, 3));
        Expect.same("13 to 14", 14, x.told(4, 3));
        Expect.same("12 to 13", 13, x.told(3, 3));
        Expect.same("the 0 of 11 to 12", 12, x.told(1, 3));
        Expect.same("the 1 of 11 catches on the 0 that has come to 12", 11, x.told(2, 3));
        Expect.same("the 0 of 10 catches on the 1 of 11", 10, x.told(0, 3));
    }

    private static void catchesForTheRestOfTheMinute() {
        LanternWeirs x = new LanternWeirs();
        x.setCurrent(2, 5);
        x.launch(0, 0, 2, 20);
        x.launch(1, 0, 2, 20);
        x.launch(0, 0, 2, 23);
        x.launch(1, 0, 2, 29);
        x.launch(2, 0, 2, 25);
        x.pass(1);
        Expect.same("29 goes free", 34, x.told(3, 3));
        Expect.same("25 goes free", 30, x.told(4, 3));
        Expect.same("23 goes to 28", 28, x.told(2, 3));
        Expect.same("0 goes to 25", 25, x.told(0, 3));
        Expect.same("1 comes to 24 and catches", 24, x.told(1, 3));
    }

    private static void farthestDownGoesFirst() {
        LanternWeirs x = Given.river(1);
        x.launch(1, 0, 0, 10);
        x.launch(0, 0, 0, 11);
        x.launch(1, 0, 0, 12);
        x.pass(1);
        Expect.same("10", 11, x.told(0, 3));
        Expect.same("11", 12, x.told(1, 3));
        Expect.same("12", 13, x.told(2, 3));
    }

    private static void smallestLaneAndNumberGoFirst() {
        LanternWeirs x = Given.river(1);
        x.launch(1, 0, 0, 10);
        x.launch(0, 0, 0, 10);
        x.launch(2, 0, 0, 10);
        x.launch(1, 0, 0, 10);
        x.pass(1);
        Expect.same("the smallest number goes", 11, x.told(0, 3));
        Expect.same("another kind catches", 10, x.told(1, 3));
        Expect.same("a third kind catches", 10, x.told(2, 3));
        Expect.same("its own kind goes", 11, x.told(3, 3));
    }

    /** One that drifts past others in a minute still goes behind them in it. */
    private static void orderIsTheOneAhead() {
        LanternWeirs x = Given.river(1);
        x.setCurrent(0, 5);
        x.launch(0, 0, 0, 10);
        x.launch(0, 0, 0, 12);
        x.launch(0, 0, 0, 13);
        x.weir(14, 9);
        x.pass(1);
        Expect.same("13 goes first, without shelter", 9, x.told(2, 5));
        Expect.same("12 goes next, with 13 at 18", 9, x.told(1, 5));
        Expect.same("10 goes last, with 12 at 17", 8, x.told(0, 5));
    }

    private static void wetByTheSprayLessTheShelter() {
        for (int sheltering = 0; sheltering <= 5; sheltering++) {
            LanternWeirs x = Given.river(1);
            x.weir(20, 4);
            for (int i = 0; i < sheltering; i++) {
                x.launch(0, 0, 1, 20 + i % 3);
            }
            int wet = x.launch(0, 0, 1, 19);
            x.pass(1);
            int due = sheltering < 3 ? 4 - sheltering : 1;
            Expect.same("wet with " + sheltering + " ahead", due, x.told(wet, 5));
        }
    }

    private static void shelterIsOfThreePlacesOnTheLane() {
        for (int place = 20; place <= 26; place++) {
            for (int lane = 0; lane <= 2; lane++) {
                LanternWeirs x = Given.river(1);
                x.weir(20, 4);
                x.launch(2, 0, lane, place);
                int wet = x.launch(2, 0, 1, 19);
                x.pass(1);
                boolean shelters = lane == 1 && place + 1 <= 23;
                Expect.same("wet with one from " + place + " on lane " + lane, shelters ? 3 : 4, x.told(wet, 5));
            }
        }
        LanternWeirs x = Given.river(1);
        x.weir(20, 4);
        x.launch(2, 0, 1, 19);
        x.launch(2, 0, 1, 19);
        x.pass(1);
        Expect.same("the first of two at one place", 4, x.told(0, 5));
        Expect.same("the second of two at one place", 4, x.told(1, 5));
        LanternWeirs y = Given.river(1);
        y.weir(59, 4);
        y.launch(0, 0, 0, 58);
        y.launch(0, 0, 1, 0);
        y.launch(0, 0, 1, 1);
        y.launch(0, 0, 1, 2);
        y.launch(0, 0, 0, 59);
        y.pass(1);
        Expect.same("no shelter beyond the last place", 4, y.told(0, 5));
    }

    private static void shelterOfAnyOne() {
        LanternWeirs x = Given.river(1);
        x.weir(20, 9);
        x.net(1, 23);
        x.launch(0, 0, 1, 20);
        x.launch(1, 0, 1, 21);
        x.launch(2, 0, 1, 22);
        x.blow(0);
        int wet = x.launch(0, 0, 1, 19);
        x.pass(1);
        Expect.same("other frames and one that does not burn shelter, one in a net does not", 7, x.told(wet, 5));
    }

    private static void setWhereAWeirIs() {
        LanternWeirs x = Given.river(1);
        x.weir(20, 9);
        x.weir(21, 2);
        x.launch(0, 0, 0, 20);
        x.pass(1);
        Expect.same("wet by the next weir alone", 2, x.told(0, 5));
        LanternWeirs y = new LanternWeirs();
        y.setCurrent(0, 5);
        y.weir(11, 1);
        y.weir(13, 2);
        y.weir(15, 4);
        y.weir(16, 8);
        y.launch(0, 0, 0, 10);
        y.pass(1);
        Expect.same("wet by each weir on the way", 7, y.told(0, 5));
        LanternWeirs z = Given.river(1);
        z.weir(20, 2);
        z.launch(1, 0, 0, 19);
        z.launch(0, 0, 0, 20);
        z.launch(2, 0, 0, 20);
        z.pass(2);
        Expect.same("wet once, though it stays", 1, z.told(0, 5));
    }

    private static void netTakesBehindTheWeir() {
        LanternWeirs x = new LanternWeirs();
        x.setCurrent(0, 5);
        x.weir(20, 6);
        x.net(0, 20);
        x.launch(2, 9, 0, 18);
        x.launch(1, 7, 0, 17);
        Expect.same("pass(1)", 2, x.pass(1));
        Expect.same("wet at the net", 6, x.told(0, 5));
        Expect.same("out by the spray, then in the net", 0, x.told(0, 6));
        Expect.same("in the net", 1, x.told(0, 7));
        Expect.same("drifts no more", 20, x.told(0, 3));
        Expect.same("wet, and burns", 1, x.told(1, 6));
        Expect.same("no shelter of one in a net", 6, x.told(1, 5));
        Expect.same("wishes of those that burn", 7, x.count(9));
        x.pass(1);
        Expect.same("stays in the net", 20, x.told(0, 3));
    }

    private static void netTakesOnlyOnItsLane() {
        LanternWeirs x = Given.river(1);
        x.net(0, 20);
        x.net(1, 30);
        x.launch(0, 0, 0, 29);
        x.launch(0, 0, 1, 19);
        x.launch(0, 0, 2, 19);
        Expect.same("pass(1)", 0, x.pass(1));
        Expect.same("afloat", 3, x.count(2));
    }

    private static void lastPlaceAndBeyond() {
        LanternWeirs x = Given.river(1);
        x.net(1, 59);
        for (int lane = 0; lane <= 2; lane++) {
            x.launch(lane, 0, lane, 58);
        }
        x.pass(1);
        Expect.same("at the last place", 59, x.told(0, 3));
        Expect.same("in the net at the last place", 1, x.told(1, 7));
        Expect.same("burns", 1, x.told(0, 6));
        x.pass(1);
        Expect.same("lost", 2, x.told(0, 7));
        Expect.same("the place of a lost one", 60, x.told(0, 3));
        Expect.same("a lost one does not burn", 0, x.told(0, 6));
        Expect.same("a lost one uses no wax in this minute", 19, x.told(0, 4));
        Expect.same("the minute of it", 1, x.told(0, 8));
        LanternWeirs y = new LanternWeirs();
        y.setCurrent(0, 5);
        y.launch(0, 0, 0, 57);
        y.launch(1, 0, 0, 59);
        y.pass(1);
        Expect.same("lost on the way", 60, y.told(0, 3));
        Expect.same("a lost one is nothing to catch on", 2, y.told(0, 7));
    }

    private static void thoseThatDoNotBurn() {
        LanternWeirs x = Given.river(1);
        x.weir(12, 3);
        x.net(0, 15);
        x.launch(1, 0, 0, 10);
        x.launch(0, 100, 0, 10);
        x.launch(2, 50, 0, 9);
        x.blow(0);
        x.blow(1);
        x.pass(1);
        Expect.same("it drifts", 11, x.told(0, 3));
        Expect.same("no wax is used", 30, x.told(0, 4));
        Expect.same("one that does not burn catches on one that does not", 10, x.told(1, 3));
        Expect.same("one that burns catches on one that does not", 9, x.told(2, 3));
        x.pass(1);
        Expect.same("it gets wet", 3, x.told(0, 5));
        x.pass(20);
        Expect.same("all come into the net", 3, x.river(0, 15, 3));
        Expect.same("and do not burn there", 0, x.told(0, 6));
        Expect.same("one burns", 1, x.count(6));
        Expect.same("so its wish alone is read", 50, x.count(9));
    }

    private static void netsUseNoWax() {
        LanternWeirs x = Given.river(1);
        x.net(0, 2);
        x.launch(0, 3, 0, 0);
        x.pass(2);
        Expect.same("no wax is used in the minute of the net", 19, x.told(0, 4));
        x.pass(90);
        Expect.same("no wax is used in the net", 19, x.told(0, 4));
        Expect.same("it burns on", 1, x.told(0, 6));
    }
}
