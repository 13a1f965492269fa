/** What the tests start from. */
final class Given {
    private Given() {
    }

    /** Numbers just and far beyond an edge; two of them would be within it if they were cut to a short or a byte. */
    static int[] beyond(int least, int most) {
        return new int[] {least - 1, most + 1, least - 65536, most + 65536, Integer.MIN_VALUE, Integer.MAX_VALUE};
    }

    /** A river that drifts by the same current on each lane. */
    static LanternWeirs river(int current) {
        LanternWeirs x = new LanternWeirs();
        for (int lane = 0; lane <= 2; lane++) {
            x.setCurrent(lane, current);
        }
        return x;
    }

    /** As many weirs, nets and lanterns as can be; 0 is in a net and burns, 1 is lost, 2 is too wet and afloat. */
    static LanternWeirs full() {
        LanternWeirs x = new LanternWeirs();
        for (int i = 0; i < 6; i++) {
            x.weir(10 * i + 5, i + 4);
        }
        x.net(0, 32);
        x.net(1, 32);
        x.net(0, 58);
        x.net(2, 59);
        x.launch(0, 999, 1, 31);
        x.launch(1, 1, 1, 59);
        x.launch(2, 2, 2, 54);
        for (int i = 3; i < 40; i++) {
            x.launch(i % 3, i * 25, i * 5 % 3, i * 7 % 60);
        }
        x.pass(2);
        return x;
    }
}
