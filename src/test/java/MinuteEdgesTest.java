/** The edges that "A minute goes like this" names: a test for each sentence. */
public final class MinuteEdgesTest {
    public static void main(String[] args) {
        Expect.holds("Lanterns that are afloat, ..", MinuteEdgesTest::thoseThatAreAfloat);
        Expect.holds("from the one that is farthest down .. to the one that is farthest up",
            MinuteEdgesTest::farthestDownFirst);
        Expect.holds("of several there the one with the smallest number", MinuteEdgesTest::smallestNumberFirst);
        Expect.holds("as they are ahead of this", MinuteEdgesTest::asTheyAreAheadOfThis);
        Expect.holds("each drifts place by place, as far as the current of its lane tells",
            MinuteEdgesTest::placeByPlace);
        Expect.holds("If at the next place of its lane there is a lantern ..",
            MinuteEdgesTest::onlyTheNextPlaceOfItsLane);
        Expect.holds("a lantern that is afloat, ..", MinuteEdgesTest::nothingToCatchOnThatIsNotAfloat);
        Expect.holds("and has a frame of another kind ..", MinuteEdgesTest::nothingToCatchOnOfItsOwnKind);
        Expect.holds("(one among several is enough)", MinuteEdgesTest::oneAmongSeveralIsEnough);
        Expect.holds("it catches on this: it stays where it is for the rest of this minute.",
            MinuteEdgesTest::staysForTheRestOfTheMinute);
        Expect.holds("Beyond the place 59 it is lost, and does not burn any more.",
            MinuteEdgesTest::beyondTheLastPlace);
        Expect.holds("it gets wet by the spray, less 1 for each other lantern ..",
            MinuteEdgesTest::lessOneForEachOther);
        Expect.holds("1 to 3 places farther down then", MinuteEdgesTest::oneToThreePlacesFartherDown);
        Expect.holds("each other lantern that is afloat on its lane", MinuteEdgesTest::otherOnItsLaneThatIsAfloat);
        Expect.holds("farther down then, ..", MinuteEdgesTest::fartherDownThen);
        Expect.holds("but at least by 1", MinuteEdgesTest::atLeastByOne);
        Expect.holds("if it is wet by more than its frame takes then, it does not burn any more.",
            MinuteEdgesTest::wetByMoreThanItsFrameTakes);
        Expect.holds("At a place with a weir it gets wet ..", MinuteEdgesTest::wetOnlyWhereItComes);
        Expect.holds("Behind that, at a place with a net ..", MinuteEdgesTest::netBehindTheWeir);
        Expect.holds("a net on its lane", MinuteEdgesTest::netOnItsLane);
        Expect.holds("it is in this net, and drifts no more.", MinuteEdgesTest::driftsNoMore);
        Expect.holds("Each lantern that is afloat, and burns, has a minute of wax less",
            MinuteEdgesTest::aMinuteOfWaxLess);
        Expect.holds("with none left it does not burn any more.", MinuteEdgesTest::withNoneLeft);
        Expect.holds("The minute is 1 greater.", MinuteEdgesTest::theMinuteIsOneGreater);
        Expect.holds("Lanterns in nets use no wax, and burn on, if they do.", MinuteEdgesTest::inNetsNoWaxIsUsed);
        Expect.holds("Those that do not burn drift, catch, and get wet as others do.",
            MinuteEdgesTest::thoseThatDoNotBurn);
        Expect.end();
    }

    private static void launch(LanternWeirs x, int place, int... frames) {
        for (int frame : frames) {
            x.launch(frame, 0, 0, place);
        }
    }

    private static void thoseThatAreAfloat() {
        LanternWeirs x = Given.river(1);
        Expect.same("a minute of an empty river", 0, x.pass(1));
        x.net(0, 59);
        launch(x, 58, 0);
        launch(x, 59, 0);
        x.pass(1);
        x.net(0, 58);
        x.weir(58, 9);
        long before = x.digest();
        Expect.same("a minute of one in a net and one lost", 0, x.pass(1));
        Expect.each("place", x, 3, 59, 60);
        Expect.each("wet", x, 5, 0, 0);
        Expect.same("but the minute nothing is changed: digest()", 1, before != x.digest() ? 1 : 0);
    }

    private static void farthestDownFirst() {
        LanternWeirs x = Given.river(1);
        launch(x, 0, 1);
        launch(x, 1, 0);
        launch(x, 2, 2);
        launch(x, 59, 0);
        launch(x, 58, 1);
        x.pass(1);
        Expect.each("each leaves its place ahead of the next one", x, 3, 1, 2, 3, 60, 59);
    }

    /** That of several at one place the smallest lane goes first shows nowhere: lanes are nothing to one another. */
    private static void smallestNumberFirst() {
        for (int place = 0; place <= 57; place += 57) {
            LanternWeirs x = Given.river(2);
            launch(x, place, 0, 1, 2, 0);
            x.push(0, 1);
            x.push(0, 0);
            x.pass(1);
            Expect.each("0 goes; 1 and 2 catch on it", x, 3, place + 2, place + 1, place, place);
        }
    }

    private static void asTheyAreAheadOfThis() {
        LanternWeirs x = Given.river(5);
        x.weir(14, 9);
        launch(x, 10, 0);
        launch(x, 12, 0);
        launch(x, 13, 0);
        x.pass(1);
        Expect.each("each goes once, the farthest first", x, 3, 15, 17, 18);
        Expect.each("13 and 12 alone, 10 with one at 17", x, 5, 8, 9, 9);
    }

    private static void placeByPlace() {
        for (int current = 1; current <= 5; current++) {
            LanternWeirs x = new LanternWeirs();
            x.setCurrent(0, current);
            for (int place = 11; place <= 16; place++) {
                x.weir(place, 1);
            }
            launch(x, 10, 0);
            x.launch(0, 0, 1, 30);
            x.pass(1);
            Expect.same("as far as the current " + current, 10 + current, x.told(0, 3));
            Expect.same("past each place up to that", current, x.told(0, 5));
            Expect.same("the lane 1 by its own", 33, x.told(1, 3));
        }
    }

    private static void onlyTheNextPlaceOfItsLane() {
        LanternWeirs x = Given.river(2);
        launch(x, 10, 0, 1);
        x.pass(1);
        Expect.each("not at its place, not two places ahead, but at the next", x, 3, 12, 11);
        LanternWeirs y = Given.river(1);
        launch(y, 10, 0);
        y.launch(1, 0, 1, 10);
        y.launch(2, 0, 2, 10);
        y.pass(1);
        Expect.each("not on another lane", y, 3, 11, 11, 11);
        LanternWeirs z = Given.river(1);
        launch(z, 59, 0);
        z.launch(1, 0, 1, 0);
        z.launch(2, 0, 1, 59);
        z.launch(1, 0, 2, 0);
        z.pass(1);
        Expect.each("nothing is beyond the last place", z, 3, 60, 1, 60, 1);
    }

    private static void nothingToCatchOnThatIsNotAfloat() {
        LanternWeirs x = Given.river(1);
        x.net(0, 11);
        launch(x, 10, 1, 0);
        Expect.same("both come into the net", 2, x.pass(1));
        LanternWeirs y = Given.river(1);
        launch(y, 59, 1, 0);
        y.pass(1);
        Expect.each("both are lost", y, 7, 2, 2);
        launch(y, 59, 2);
        y.pass(1);
        Expect.same("lost behind others that are lost", 2, y.told(2, 7));
    }

    private static void nothingToCatchOnOfItsOwnKind() {
        for (int ahead = 0; ahead <= 2; ahead++) {
            for (int frame = 0; frame <= 2; frame++) {
                LanternWeirs x = Given.river(1);
                launch(x, 10, ahead, frame);
                x.pass(1);
                Expect.same("frame " + frame + " behind " + ahead, frame == ahead ? 11 : 10, x.told(1, 3));
            }
        }
    }

    /** The three at the place 11 that stay catch on the one that has left it; so the next place is a mixed one. */
    private static void oneAmongSeveralIsEnough() {
        for (int frame = 1; frame <= 2; frame++) {
            LanternWeirs x = Given.river(1);
            launch(x, 11, 0, frame, 3 - frame, frame);
            launch(x, 10, frame);
            x.pass(1);
            Expect.each("one of another kind among its own", x, 3, 12, 11, 11, 11, 10);
            LanternWeirs y = Given.river(1);
            launch(y, 11, 0, frame, frame, frame);
            launch(y, 10, frame);
            y.pass(1);
            Expect.each("all of its own kind", y, 3, 12, 11, 11, 11, 11);
        }
    }

    private static void staysForTheRestOfTheMinute() {
        LanternWeirs x = new LanternWeirs();
        x.net(0, 15);
        launch(x, 9, 0, 1);
        x.setCurrent(0, 2);
        x.pass(1);
        Expect.each("it stays at the place behind", x, 3, 11, 10);
        Expect.same("it burns on", 29, x.told(1, 4));
        x.setCurrent(0, 3);
        x.pass(1);
        Expect.each("in the next minute it drifts again", x, 3, 14, 13);
        x.setCurrent(0, 5);
        x.pass(1);
        Expect.each("when the one ahead has left, it catches no more", x, 3, 15, 15);
    }

    private static void beyondTheLastPlace() {
        for (int current = 1; current <= 5; current++) {
            LanternWeirs x = Given.river(current);
            x.weir(59, 1);
            launch(x, 59, 0);
            launch(x, 60 - current, 0);
            x.net(0, 59);
            x.push(1, 1);
            x.pass(1);
            int wet = current == 1 ? 0 : 1;
            Expect.told("current " + current + ", from 59, where a net was set", x, 0, 0, 0, 0, 60, 20, 0, 0, 2, 0);
            Expect.told("current " + current + ", with its last step", x, 1, 0, 0, 1, 60, 20, wet, 0, 2, 0);
            Expect.same("none of them burns afloat", 0, x.count(5));
        }
    }

    private static void lessOneForEachOther() {
        for (int spray = 1; spray <= 9; spray++) {
            for (int others = 0; others < spray; others++) {
                LanternWeirs x = Given.river(1);
                x.weir(20, spray);
                for (int i = 0; i < others; i++) {
                    launch(x, 20 + i % 3, 0);
                }
                int wet = x.launch(0, 0, 0, 19);
                x.pass(1);
                Expect.same("spray " + spray + ", others " + others, spray - others, x.told(wet, 5));
            }
        }
    }

    private static void oneToThreePlacesFartherDown() {
        for (int weir = 19; weir <= 59; weir += 40) {
            for (int farther = -1; farther <= 5; farther++) {
                int place = weir + farther - 1;
                if (place <= 59) {
                    LanternWeirs x = Given.river(1);
                    x.weir(weir, 5);
                    launch(x, place, 0);
                    launch(x, weir - 1, 0);
                    x.pass(1);
                    boolean shelters = farther >= 1 && farther <= 3 && weir < 59;
                    Expect.same("at " + weir + ", one " + farther + " farther", shelters ? 4 : 5, x.told(1, 5));
                }
            }
        }
        LanternWeirs y = Given.river(1);
        y.weir(56, 5);
        launch(y, 58, 0);
        launch(y, 55, 0);
        y.pass(1);
        Expect.each("three farther, at the last place", y, 5, 0, 4);
    }

    private static void otherOnItsLaneThatIsAfloat() {
        LanternWeirs x = Given.river(1);
        x.weir(58, 5);
        launch(x, 57, 0, 0);
        launch(x, 59, 0);
        x.launch(0, 0, 1, 58);
        x.launch(0, 0, 2, 58);
        x.launch(0, 0, 1, 0);
        x.launch(0, 0, 1, 1);
        x.pass(1);
        Expect.each("not itself, one lost, one on another lane", x, 5, 5, 5);
        LanternWeirs y = Given.river(1);
        y.weir(20, 5);
        y.net(0, 21);
        launch(y, 20, 0);
        launch(y, 19, 0);
        y.pass(1);
        Expect.each("not one in a net", y, 5, 0, 5);
        LanternWeirs z = Given.river(1);
        z.weir(20, 5);
        launch(z, 20, 1);
        launch(z, 21, 2);
        launch(z, 22, 0);
        z.blow(2);
        launch(z, 19, 0);
        z.pass(1);
        Expect.each("each frame, burning or not", z, 5, 0, 0, 0, 2);
    }

    private static void fartherDownThen() {
        LanternWeirs x = Given.river(5);
        x.weir(20, 5);
        launch(x, 21, 0);
        launch(x, 19, 0);
        x.pass(1);
        Expect.each("the one ahead has drifted to 26 by then", x, 5, 0, 5);
        LanternWeirs y = Given.river(5);
        y.weir(20, 5);
        launch(y, 18, 0);
        launch(y, 16, 0);
        y.pass(1);
        Expect.each("the one ahead is at 23 by then", y, 5, 5, 4);
    }

    private static void atLeastByOne() {
        for (int spray = 1; spray <= 9; spray++) {
            for (int more = -1; more <= 30; more++) {
                int others = spray + more;
                LanternWeirs x = Given.river(1);
                x.weir(20, spray);
                for (int i = 0; i < others; i++) {
                    launch(x, 20 + i % 3, 0);
                }
                int wet = x.launch(0, 0, 0, 19);
                x.pass(1);
                Expect.same("spray " + spray + ", others " + others, 1, x.told(wet, 5));
            }
        }
    }

    private static void wetByMoreThanItsFrameTakes() {
        LanternWeirs x = Given.river(1);
        x.weir(10, 6);
        launch(x, 10, 2);
        launch(x, 9, 2);
        x.launch(2, 0, 1, 9);
        x.pass(1);
        Expect.each("wet by 5 with shelter, by 6 without", x, 5, 0, 5, 6);
        Expect.each("burns with 5, not with 6", x, 6, 1, 1, 0);
        Expect.each("one that is out uses no wax in this minute", x, 4, 44, 44, 45);
        x.weir(15, 1);
        x.pass(5);
        Expect.each("wet by one more", x, 5, 1, 6, 7);
        Expect.each("only the first burns", x, 6, 1, 0, 0);
    }

    private static void wetOnlyWhereItComes() {
        LanternWeirs x = Given.river(1);
        x.weir(12, 5);
        launch(x, 11, 0, 1);
        x.launch(0, 0, 1, 12);
        x.launch(0, 0, 2, 12);
        x.launch(1, 0, 2, 12);
        x.pass(1);
        Expect.each("comes to it; caught ahead of it; set at it; set at it; caught at it", x, 5, 5, 0, 0, 0, 0);
        x.push(4, 1);
        x.push(4, 0);
        Expect.same("pushed along it", 0, x.told(4, 5));
        LanternWeirs y = Given.river(5);
        y.weir(11, 1);
        y.weir(13, 2);
        y.weir(15, 4);
        y.weir(16, 5);
        launch(y, 10, 0);
        y.pass(1);
        Expect.same("by each on the way, and by none ahead", 7, y.told(0, 5));
    }

    private static void netBehindTheWeir() {
        LanternWeirs x = Given.river(1);
        x.weir(10, 6);
        x.net(0, 10);
        launch(x, 9, 2, 1);
        Expect.same("both come into the net", 2, x.pass(1));
        Expect.told("wet by too much ahead of it", x, 0, 2, 0, 0, 10, 45, 6, 0, 1, 0);
        Expect.told("wet, and burns", x, 1, 1, 0, 0, 10, 30, 6, 1, 1, 0);
    }

    private static void netOnItsLane() {
        for (int lane = 0; lane <= 2; lane++) {
            LanternWeirs x = Given.river(1);
            x.net(lane, 10);
            for (int other = 0; other <= 2; other++) {
                x.launch(0, 0, other, 9);
            }
            Expect.same("one of three comes into it", 1, x.pass(1));
            Expect.same("that of its lane", 1, x.told(lane, 7));
        }
    }

    private static void driftsNoMore() {
        for (int place = 10; place <= 15; place++) {
            LanternWeirs x = Given.river(5);
            x.net(0, place);
            x.weir(16, 1);
            launch(x, 10, 0);
            x.pass(1);
            int due = place == 10 ? 15 : place;
            Expect.same("with a net at " + place, due, x.told(0, 3));
            Expect.same("in it", place == 10 ? 0 : 1, x.told(0, 7));
            x.pass(1);
            Expect.same("a minute behind", place == 10 ? 20 : place, x.told(0, 3));
        }
    }

    private static void aMinuteOfWaxLess() {
        LanternWeirs x = Given.river(1);
        x.net(1, 11);
        launch(x, 10, 0, 1, 0);
        x.launch(0, 0, 1, 10);
        x.launch(0, 0, 2, 59);
        x.blow(2);
        x.pass(1);
        Expect.each("drifted, caught, out, in a net, lost", x, 4, 19, 29, 20, 20, 20);
    }

    private static void withNoneLeft() {
        LanternWeirs x = Given.river(1);
        x.net(1, 20);
        x.net(2, 21);
        for (int lane = 0; lane <= 2; lane++) {
            x.launch(0, 0, lane, 0);
        }
        x.pass(19);
        Expect.each("the last wax", x, 4, 1, 1, 1);
        Expect.each("burns with it", x, 6, 1, 1, 1);
        x.pass(1);
        Expect.each("none left, but in the net", x, 4, 0, 1, 0);
        Expect.each("burns with some left", x, 6, 0, 1, 0);
        x.pass(1);
        Expect.each("none less than none", x, 4, 0, 1, 0);
        Expect.each("does not burn any more, in the net too", x, 6, 0, 1, 0);
    }

    private static void theMinuteIsOneGreater() {
        LanternWeirs x = Given.river(1);
        for (int minute = 0; minute < 5; minute++) {
            Expect.same("minute", minute, x.count(0));
            launch(x, 59, 0);
            x.pass(1);
            Expect.same("lost ahead of that", minute, x.told(minute, 8));
        }
        x.pass(90);
        Expect.same("behind 95", 95, x.count(0));
    }

    private static void inNetsNoWaxIsUsed() {
        LanternWeirs x = Given.river(1);
        x.net(0, 19);
        launch(x, 0, 0, 0);
        x.blow(1);
        x.pass(19);
        Expect.each("wax in the net", x, 4, 2, 20);
        x.pass(90);
        x.pass(90);
        Expect.each("wax in the net long behind", x, 4, 2, 20);
        Expect.each("burns on, if it does", x, 6, 1, 0);
    }

    private static void thoseThatDoNotBurn() {
        LanternWeirs x = Given.river(1);
        x.weir(11, 9);
        x.net(0, 30);
        launch(x, 10, 0, 1);
        launch(x, 9, 2);
        x.launch(2, 0, 1, 10);
        for (int i = 0; i < 4; i++) {
            x.blow(i);
        }
        x.pass(1);
        Expect.each("drift and catch", x, 3, 11, 10, 9, 11);
        Expect.each("get wet", x, 5, 9, 0, 0, 9);
        x.pass(30);
        Expect.each("come into a net, and are lost, as others do", x, 7, 1, 1, 1, 0);
        Expect.each("use no wax", x, 4, 20, 30, 45, 45);
        Expect.each("do not burn", x, 6, 0, 0, 0, 0);
    }
}
