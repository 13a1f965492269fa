/** Paper lanterns that float down a river at a festival. */
public final class LanternWeirs {
    private static final int LANES = 3;
    private static final int PLACES = 60;
    private static final int FRAMES = 3;
    private static final int MOST_CURRENT = 5;
    private static final int MOST_WEIRS = 6;
    private static final int MOST_SPRAY = 9;
    private static final int MOST_NETS = 4;
    private static final int MOST_LANTERNS = 40;
    private static final int MOST_WISH = 999;
    private static final int MOST_MINUTES = 90;
    private static final int LOOK_AHEAD = 60;
    private static final int SHELTER = 3;
    private static final int COUNTS = 10;
    private static final int COUNT_IN_NETS = 3;
    private static final int RIVER_FACTS = 4;
    private static final int LANTERN_FACTS = 9;
    private static final int AFLOAT = 0;
    private static final int IN_NET = 1;
    private static final int LOST = 2;

    private final Bed bed;
    private final Fleet fleet;
    /** What would be: made once and written anew for each look ahead, so that no call makes rows of its own. */
    private final Fleet dream;

    public LanternWeirs() {
        bed = new Bed();
        fleet = new Fleet();
        dream = new Fleet();
    }

    // ---- river

    public int setCurrent(int lane, int current) throws IndexOutOfBoundsException, IllegalArgumentException {
        if (!isLane(lane)) {
            throw new IndexOutOfBoundsException("no such lane");
        }
        if (!isWithin(current, 1, MOST_CURRENT)) {
            throw new IllegalArgumentException("no such current");
        }
        int before = bed.currents.get(lane);
        bed.currents.put(lane, current);
        return before;
    }

    public int weir(int place, int spray)
            throws IndexOutOfBoundsException, IllegalArgumentException, IllegalStateException {
        if (!isWithin(place, 1, PLACES - 1)) {
            throw new IndexOutOfBoundsException("no place for a weir");
        }
        if (!isWithin(spray, 1, MOST_SPRAY)) {
            throw new IllegalArgumentException("no such spray");
        }
        if (bed.weirs >= MOST_WEIRS || bed.sprays.get(place) > 0) {
            throw new IllegalStateException("too many weirs, or one is there");
        }
        return bed.addWeir(place, spray);
    }

    public int net(int lane, int place) throws IndexOutOfBoundsException, IllegalStateException {
        if (!isLane(lane) || !isWithin(place, 1, PLACES - 1)) {
            throw new IndexOutOfBoundsException("no place for a net");
        }
        if (bed.netCount >= MOST_NETS || bed.hasNet(lane, place)) {
            throw new IllegalStateException("too many nets, or one is there");
        }
        return bed.addNet(lane, place);
    }

    public int river(int lane, int place, int what) throws IndexOutOfBoundsException {
        if (!isLane(lane) || !isPlace(place) || !isWithin(what, 0, RIVER_FACTS - 1)) {
            throw new IndexOutOfBoundsException("nothing of the river is told of this");
        }
        return riverFact(lane, place, what);
    }

    // ---- lanterns

    public int launch(int frame, int wish, int lane, int place)
            throws IndexOutOfBoundsException, IllegalArgumentException, IllegalStateException {
        if (!isFrame(frame) || !isLane(lane) || !isPlace(place)) {
            throw new IndexOutOfBoundsException("no such frame, lane or place");
        }
        if (!isWithin(wish, 0, MOST_WISH)) {
            throw new IllegalArgumentException("no such wish");
        }
        if (fleet.size >= MOST_LANTERNS) {
            throw new IllegalStateException("too many lanterns");
        }
        return fleet.add(frame, wish, lane, place);
    }

    public int push(int lantern, int lane) throws IndexOutOfBoundsException, IllegalStateException {
        if (!fleet.has(lantern) || !isLane(lane)) {
            throw new IndexOutOfBoundsException("no such lantern or lane");
        }
        if (!fleet.isAfloat(lantern)) {
            throw new IllegalStateException("it is not afloat");
        }
        int before = fleet.lanes.get(lantern);
        fleet.moveTo(lantern, lane, fleet.places.get(lantern));
        return before;
    }

    public int light(int lantern) throws IndexOutOfBoundsException, IllegalStateException {
        if (!fleet.has(lantern)) {
            throw new IndexOutOfBoundsException("no such lantern");
        }
        if (!fleet.isAfloat(lantern) || !fleet.canBeLit(lantern)) {
            throw new IllegalStateException("it can't be lit");
        }
        fleet.burning.put(lantern, 1);
        return fleet.waxes.get(lantern);
    }

    public int blow(int lantern) throws IndexOutOfBoundsException, IllegalStateException {
        if (!fleet.has(lantern)) {
            throw new IndexOutOfBoundsException("no such lantern");
        }
        if (!fleet.isAfloat(lantern) || !fleet.isBurning(lantern)) {
            throw new IllegalStateException("it is not afloat, or does not burn");
        }
        fleet.burning.put(lantern, 0);
        return fleet.waxes.get(lantern);
    }

    public int told(int lantern, int what) throws IndexOutOfBoundsException {
        if (!fleet.has(lantern) || !isWithin(what, 0, LANTERN_FACTS - 1)) {
            throw new IndexOutOfBoundsException("nothing of a lantern is told of this");
        }
        return fleet.fact(lantern, what);
    }

    public int next(int lantern) throws IndexOutOfBoundsException {
        if (!fleet.has(lantern)) {
            throw new IndexOutOfBoundsException("no such lantern");
        }
        return nextWeir(lantern);
    }

    public int count(int what) throws IndexOutOfBoundsException {
        if (!isWithin(what, 0, COUNTS - 1)) {
            throw new IndexOutOfBoundsException("nothing is counted of this");
        }
        return counted(what);
    }

    // ---- minutes and what would be

    public int pass(int minutes) throws IllegalArgumentException {
        if (!isWithin(minutes, 1, MOST_MINUTES)) {
            throw new IllegalArgumentException("no such number of minutes");
        }
        int before = fleet.tally(COUNT_IN_NETS);
        fleet.passMinutes(minutes, bed);
        return fleet.tally(COUNT_IN_NETS) - before;
    }

    public int burns(int lantern) throws IndexOutOfBoundsException {
        if (!fleet.has(lantern)) {
            throw new IndexOutOfBoundsException("no such lantern");
        }
        dream.copy(fleet);
        for (int minute = 0; minute <= LOOK_AHEAD; minute++) {
            if (!dream.isBurning(lantern)) {
                return minute;
            }
            dream.passMinutes(1, bed);
        }
        return -1;
    }

    public int foresee(int minutes, int what) throws IllegalArgumentException, IndexOutOfBoundsException {
        if (!isWithin(minutes, 1, MOST_MINUTES)) {
            throw new IllegalArgumentException("no such number of minutes");
        }
        if (!isWithin(what, 2, 6) && what != 9) {
            throw new IndexOutOfBoundsException("nothing is foreseen of this");
        }
        dream.copy(fleet);
        dream.passMinutes(minutes, bed);
        return dream.tally(what);
    }

    public int advise(int frame) throws IndexOutOfBoundsException {
        if (!isFrame(frame)) {
            throw new IndexOutOfBoundsException("no such frame");
        }
        int best = -1;
        int soonest = LOOK_AHEAD + 1;
        for (int lane = 0; lane < LANES; lane++) {
            int minutes = minutesToNet(frame, lane);
            if (minutes < soonest) {
                soonest = minutes;
                best = lane;
            }
        }
        return best;
    }

    public double mean() {
        int floating = 0;
        int sum = 0;
        for (int i = 0; i < fleet.size; i++) {
            if (fleet.isAfloat(i)) {
                floating++;
                sum += fleet.places.get(i);
            }
        }
        return floating > 0 ? (double) sum / (double) floating : 0.0;
    }

    public long digest() {
        long d = 1297;
        for (int what = 0; what < COUNTS; what++) {
            d = d * 31 + counted(what);
        }
        for (int lane = 0; lane < LANES; lane++) {
            d = d * 31 + bed.currents.get(lane);
        }
        for (int place = 0; place < PLACES; place++) {
            for (int lane = 0; lane < LANES; lane++) {
                for (int what = 0; what < RIVER_FACTS; what++) {
                    d = d * 31 + riverFact(lane, place, what);
                }
            }
        }
        for (int i = 0; i < fleet.size; i++) {
            for (int what = 0; what < LANTERN_FACTS; what++) {
                d = d * 31 + fleet.fact(i, what);
            }
            d = d * 31 + nextWeir(i);
        }
        return d;
    }

    // ---- what the calls share

    private static boolean isWithin(int value, int least, int most) {
        return value >= least && value <= most;
    }

    private static boolean isLane(int lane) {
        return isWithin(lane, 0, LANES - 1);
    }

    private static boolean isPlace(int place) {
        return isWithin(place, 0, PLACES - 1);
    }

    private static boolean isFrame(int frame) {
        return isWithin(frame, 0, FRAMES - 1);
    }

    private static int waxOf(int frame) {
        return frame == 0 ? 20 : frame == 1 ? 30 : 45;
    }

    private static int sprayTakenBy(int frame) {
        return frame == 0 ? 12 : frame == 1 ? 8 : 5;
    }

    private int riverFact(int lane, int place, int what) {
        switch (what) {
            case 0:
                return fleet.floatingAt(lane, place);
            case 1:
                return bed.sprays.get(place);
            case 2:
                return bed.hasNet(lane, place) ? 1 : 0;
            default:
                return bed.hasNet(lane, place) ? fleet.caughtAt(lane, place) : 0;
        }
    }

    private int nextWeir(int lantern) {
        if (!fleet.isAfloat(lantern)) {
            return -1;
        }
        for (int place = fleet.places.get(lantern) + 1; place < PLACES; place++) {
            if (bed.sprays.get(place) > 0) {
                return place;
            }
        }
        return -1;
    }

    private int counted(int what) {
        switch (what) {
            case 0:
                return fleet.minute;
            case 1:
                return fleet.size;
            case 7:
                return bed.weirs;
            case 8:
                return bed.netCount;
            default:
                return fleet.tally(what);
        }
    }

    /** Minutes until a lantern set afloat now at the place 0 is in a net and burns; beyond LOOK_AHEAD if never. */
    private int minutesToNet(int frame, int lane) {
        dream.copy(fleet);
        int lantern = dream.add(frame, 0, lane, 0);
        for (int minutes = 1; minutes <= LOOK_AHEAD && dream.isBurning(lantern); minutes++) {
            dream.passMinutes(1, bed);
            if (dream.isBurning(lantern) && dream.states.get(lantern) == IN_NET) {
                return minutes;
            }
        }
        return LOOK_AHEAD + 1;
    }

    /** Numbers in a row of fixed length: each index is looked at here, so that none can make the machine throw. */
    private static final class Row {
        private final int[] cells;

        Row(int length) {
            cells = new int[length > 0 ? length : 0];
        }

        int get(int index) {
            return index >= 0 && index < cells.length ? cells[index] : 0;
        }

        void put(int index, int value) {
            if (index >= 0 && index < cells.length) {
                cells[index] = value;
            }
        }

        void copy(Row other) {
            for (int i = 0; i < cells.length; i++) {
                cells[i] = other.get(i);
            }
        }
    }

    /** What stands still: the currents, the weirs and the nets. */
    private static final class Bed {
        final Row currents = new Row(LANES);
        final Row sprays = new Row(PLACES);
        final Row nets = new Row(LANES * PLACES);
        int weirs;
        int netCount;

        Bed() {
            currents.put(0, 2);
            currents.put(1, 3);
            currents.put(2, 2);
        }

        int addWeir(int place, int spray) {
            sprays.put(place, spray);
            weirs++;
            return weirs;
        }

        int addNet(int lane, int place) {
            nets.put(lane * PLACES + place, 1);
            netCount++;
            return netCount;
        }

        boolean hasNet(int lane, int place) {
            return nets.get(lane * PLACES + place) == 1;
        }
    }

    /** The minute and all lanterns, a cell of each row for each lantern. */
    private static final class Fleet {
        /** One more than can be set afloat: advise() looks where one would come that there is no number for. */
        private static final int ROOM = MOST_LANTERNS + 1;
        private static final int KEY_STEP = 64;

        final Row frames = new Row(ROOM);
        final Row wishes = new Row(ROOM);
        final Row lanes = new Row(ROOM);
        final Row places = new Row(ROOM);
        final Row waxes = new Row(ROOM);
        final Row wets = new Row(ROOM);
        final Row burning = new Row(ROOM);
        final Row states = new Row(ROOM);
        final Row ends = new Row(ROOM);
        /** How many lanterns are afloat at each spot, a cell for each frame: saves a search at every step. */
        final Row crowd = new Row(LANES * PLACES * FRAMES);
        final Row queue = new Row(ROOM);
        int size;
        int minute;

        void copy(Fleet other) {
            frames.copy(other.frames);
            wishes.copy(other.wishes);
            lanes.copy(other.lanes);
            places.copy(other.places);
            waxes.copy(other.waxes);
            wets.copy(other.wets);
            burning.copy(other.burning);
            states.copy(other.states);
            ends.copy(other.ends);
            crowd.copy(other.crowd);
            size = other.size;
            minute = other.minute;
        }

        int add(int frame, int wish, int lane, int place) {
            if (size >= ROOM) {
                return -1;
            }
            int lantern = size;
            size++;
            frames.put(lantern, frame);
            wishes.put(lantern, wish);
            lanes.put(lantern, lane);
            places.put(lantern, place);
            waxes.put(lantern, waxOf(frame));
            wets.put(lantern, 0);
            burning.put(lantern, 1);
            states.put(lantern, AFLOAT);
            ends.put(lantern, -1);
            crowdBy(lantern, 1);
            return lantern;
        }

        boolean has(int lantern) {
            return isWithin(lantern, 0, size - 1);
        }

        boolean isAfloat(int lantern) {
            return has(lantern) && states.get(lantern) == AFLOAT;
        }

        boolean isBurning(int lantern) {
            return has(lantern) && burning.get(lantern) == 1;
        }

        boolean isSoaked(int lantern) {
            return wets.get(lantern) > sprayTakenBy(frames.get(lantern));
        }

        boolean canBeLit(int lantern) {
            return !isBurning(lantern) && !isSoaked(lantern) && waxes.get(lantern) > 0;
        }

        void moveTo(int lantern, int lane, int place) {
            crowdBy(lantern, -1);
            lanes.put(lantern, lane);
            places.put(lantern, place);
            crowdBy(lantern, 1);
        }

        int fact(int lantern, int what) {
            switch (what) {
                case 0:
                    return frames.get(lantern);
                case 1:
                    return wishes.get(lantern);
                case 2:
                    return lanes.get(lantern);
                case 3:
                    return places.get(lantern);
                case 4:
                    return waxes.get(lantern);
                case 5:
                    return wets.get(lantern);
                case 6:
                    return burning.get(lantern);
                case 7:
                    return states.get(lantern);
                default:
                    return ends.get(lantern);
            }
        }

        int floatingAt(int lane, int place) {
            int floating = 0;
            for (int frame = 0; frame < FRAMES; frame++) {
                floating += crowd.get(cell(lane, place, frame));
            }
            return floating;
        }

        int caughtAt(int lane, int place) {
            int caught = 0;
            for (int i = 0; i < size; i++) {
                if (states.get(i) == IN_NET && lanes.get(i) == lane && places.get(i) == place) {
                    caught++;
                }
            }
            return caught;
        }

        /** What count() tells of lanterns, by its numbers 2 to 6 and 9. */
        int tally(int what) {
            int sum = 0;
            for (int i = 0; i < size; i++) {
                sum += share(i, what);
            }
            return sum;
        }

        private int share(int lantern, int what) {
            int state = states.get(lantern);
            int lit = burning.get(lantern);
            switch (what) {
                case 2:
                    return state == AFLOAT ? 1 : 0;
                case 3:
                    return state == IN_NET ? 1 : 0;
                case 4:
                    return state == LOST ? 1 : 0;
                case 5:
                    return state == AFLOAT ? lit : 0;
                case 6:
                    return state == IN_NET ? lit : 0;
                default:
                    return state == IN_NET ? lit * wishes.get(lantern) : 0;
            }
        }

        void passMinutes(int minutes, Bed bed) {
            for (int passed = 0; passed < minutes; passed++) {
                int queued = lineUp();
                for (int i = 0; i < queued; i++) {
                    drift(queue.get(i) % KEY_STEP, bed);
                }
                useWax();
                minute++;
            }
        }

        /** Puts those afloat in the order in which they drift, as it is ahead of the first one's drifting. */
        private int lineUp() {
            int queued = 0;
            for (int i = 0; i < size; i++) {
                if (isAfloat(i)) {
                    int spot = (PLACES - 1 - places.get(i)) * LANES + lanes.get(i);
                    int key = spot * KEY_STEP + i;
                    int at = queued;
                    while (at > 0 && queue.get(at - 1) > key) {
                        queue.put(at, queue.get(at - 1));
                        at--;
                    }
                    queue.put(at, key);
                    queued++;
                }
            }
            return queued;
        }

        private void drift(int lantern, Bed bed) {
            int lane = lanes.get(lantern);
            int steps = bed.currents.get(lane);
            for (int step = 0; step < steps && isAfloat(lantern) && !catchesAhead(lantern); step++) {
                int place = places.get(lantern) + 1;
                moveTo(lantern, lane, place);
                if (place >= PLACES) {
                    burning.put(lantern, 0);
                    leave(lantern, LOST);
                } else {
                    meetWeir(lantern, bed.sprays.get(place));
                    if (bed.hasNet(lane, place)) {
                        leave(lantern, IN_NET);
                    }
                }
            }
        }

        private boolean catchesAhead(int lantern) {
            int ahead = places.get(lantern) + 1;
            for (int frame = 0; frame < FRAMES; frame++) {
                if (frame != frames.get(lantern) && crowd.get(cell(lanes.get(lantern), ahead, frame)) > 0) {
                    return true;
                }
            }
            return false;
        }

        private void meetWeir(int lantern, int spray) {
            if (spray <= 0) {
                return;
            }
            int wet = spray;
            for (int below = 1; below <= SHELTER; below++) {
                for (int frame = 0; frame < FRAMES; frame++) {
                    wet -= crowd.get(cell(lanes.get(lantern), places.get(lantern) + below, frame));
                }
            }
            wets.put(lantern, wets.get(lantern) + (wet > 1 ? wet : 1));
            if (isSoaked(lantern)) {
                burning.put(lantern, 0);
            }
        }

        private void leave(int lantern, int state) {
            crowdBy(lantern, -1);
            states.put(lantern, state);
            ends.put(lantern, minute);
        }

        private void useWax() {
            for (int i = 0; i < size; i++) {
                if (isAfloat(i) && isBurning(i)) {
                    int left = waxes.get(i) - 1;
                    waxes.put(i, left);
                    if (left <= 0) {
                        burning.put(i, 0);
                    }
                }
            }
        }

        private void crowdBy(int lantern, int change) {
            int spot = cell(lanes.get(lantern), places.get(lantern), frames.get(lantern));
            crowd.put(spot, crowd.get(spot) + change);
        }

        /** The crowd's cell of a spot; -1, which no row has, beyond the last place. */
        private static int cell(int lane, int place, int frame) {
            return place < PLACES ? (lane * PLACES + place) * FRAMES + frame : -1;
        }
    }
}
