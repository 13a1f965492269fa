import java.util.ArrayList;
import java.util.Comparator;
import java.util.List;

/**
 * All promises: long runs of calls, good and bad, against a second reading of the document that searches all
 * lanterns at every step and copies them for each look ahead. The runs are the same each time.
 */
public final class ModelTest {
    private static final class Lantern {
        int number;
        int frame;
        int wish;
        int lane;
        int place;
        int wax;
        int wet;
        boolean burns = true;
        int state;
        int gone = -1;

        Lantern twin() {
            Lantern t = new Lantern();
            t.number = number;
            t.frame = frame;
            t.wish = wish;
            t.lane = lane;
            t.place = place;
            t.wax = wax;
            t.wet = wet;
            t.burns = burns;
            t.state = state;
            t.gone = gone;
            return t;
        }

        int told(int what) {
            return new int[] {frame, wish, lane, place, wax, wet, burns ? 1 : 0, state, gone}[what];
        }
    }

    private static final class Model {
        static final int[] WAX = {20, 30, 45};
        static final int[] TAKES = {12, 8, 5};
        int[] currents = {2, 3, 2};
        List<int[]> weirs = new ArrayList<>();
        List<int[]> nets = new ArrayList<>();
        List<Lantern> lanterns = new ArrayList<>();
        int minute;

        Model ahead() {
            Model m = new Model();
            m.currents = currents;
            m.weirs = weirs;
            m.nets = nets;
            m.minute = minute;
            for (Lantern l : lanterns) {
                m.lanterns.add(l.twin());
            }
            return m;
        }

        int sprayAt(int place) {
            for (int[] w : weirs) {
                if (w[0] == place) {
                    return w[1];
                }
            }
            return 0;
        }

        boolean netAt(int lane, int place) {
            for (int[] n : nets) {
                if (n[0] == lane && n[1] == place) {
                    return true;
                }
            }
            return false;
        }

        void minute() {
            List<Lantern> order = new ArrayList<>();
            for (Lantern l : lanterns) {
                if (l.state == 0) {
                    order.add(l);
                }
            }
            order.sort(Comparator.<Lantern>comparingInt(l -> -l.place).thenComparingInt(l -> l.lane)
                .thenComparingInt(l -> l.number));
            for (Lantern l : order) {
                int steps = currents[l.lane];
                while (steps-- > 0 && l.state == 0 && step(l)) {
                    continue;
                }
            }
            for (Lantern l : lanterns) {
                if (l.state == 0 && l.burns) {
                    l.wax--;
                    l.burns = l.wax > 0;
                }
            }
            minute++;
        }

        boolean step(Lantern l) {
            for (Lantern o : lanterns) {
                if (o.state == 0 && o.lane == l.lane && o.place == l.place + 1 && o.frame != l.frame) {
                    return false;
                }
            }
            l.place++;
            if (l.place > 59) {
                l.state = 2;
                l.gone = minute;
                l.burns = false;
                return false;
            }
            int spray = sprayAt(l.place);
            if (spray > 0) {
                for (Lantern o : lanterns) {
                    int below = o.place - l.place;
                    if (o != l && o.state == 0 && o.lane == l.lane && below >= 1 && below <= 3) {
                        spray--;
                    }
                }
                l.wet += Math.max(1, spray);
                l.burns = l.burns && l.wet <= TAKES[l.frame];
            }
            if (netAt(l.lane, l.place)) {
                l.state = 1;
                l.gone = minute;
            }
            return true;
        }

        Lantern add(int frame, int wish, int lane, int place) {
            Lantern l = new Lantern();
            l.number = lanterns.size();
            l.frame = frame;
            l.wish = wish;
            l.lane = lane;
            l.place = place;
            l.wax = WAX[frame];
            lanterns.add(l);
            return l;
        }

        int count(int what) {
            int sum = 0;
            for (Lantern l : lanterns) {
                boolean afloat = l.state == 0;
                boolean netted = l.state == 1;
                boolean yes = what == 2 && afloat || what == 3 && netted || what == 4 && l.state == 2
                    || what == 5 && afloat && l.burns || what == 6 && netted && l.burns;
                sum += yes ? 1 : what == 9 && netted && l.burns ? l.wish : 0;
            }
            switch (what) {
                case 0: return minute;
                case 1: return lanterns.size();
                case 7: return weirs.size();
                case 8: return nets.size();
                default: return sum;
            }
        }

        int river(int lane, int place, int what) {
            int afloat = 0;
            int caught = 0;
            for (Lantern l : lanterns) {
                if (l.lane == lane && l.place == place) {
                    afloat += l.state == 0 ? 1 : 0;
                    caught += l.state == 1 ? 1 : 0;
                }
            }
            return new int[] {afloat, sprayAt(place), netAt(lane, place) ? 1 : 0, caught}[what];
        }

        int next(Lantern l) {
            int best = -1;
            for (int[] w : weirs) {
                if (l.state == 0 && w[0] > l.place && (best < 0 || w[0] < best)) {
                    best = w[0];
                }
            }
            return best;
        }

        int burns(int number) {
            Model m = ahead();
            for (int minutes = 0; minutes <= 60; minutes++) {
                if (!m.lanterns.get(number).burns) {
                    return minutes;
                }
                m.minute();
            }
            return -1;
        }

        int advise(int frame) {
            int[] in = new int[3];
            for (int lane = 0; lane < 3; lane++) {
                Model m = ahead();
                Lantern l = m.add(frame, 0, lane, 0);
                for (int minutes = 1; minutes <= 60 && in[lane] == 0; minutes++) {
                    m.minute();
                    in[lane] = l.state == 1 && l.burns ? minutes : 0;
                }
            }
            for (int minutes = 1; minutes <= 60; minutes++) {
                for (int lane = 0; lane < 3; lane++) {
                    if (in[lane] == minutes) {
                        return lane;
                    }
                }
            }
            return -1;
        }

        long digest() {
            long d = 1297;
            for (int what = 0; what < 10; what++) {
                d = d * 31 + count(what);
            }
            for (int current : currents) {
                d = d * 31 + current;
            }
            for (int place = 0; place < 60; place++) {
                for (int lane = 0; lane < 3; lane++) {
                    for (int what = 0; what < 4; what++) {
                        d = d * 31 + river(lane, place, what);
                    }
                }
            }
            for (Lantern l : lanterns) {
                for (int what = 0; what < 9; what++) {
                    d = d * 31 + l.told(what);
                }
                d = d * 31 + next(l);
            }
            return d;
        }

        double mean() {
            double sum = 0;
            for (Lantern l : lanterns) {
                sum += l.state == 0 ? l.place : 0;
            }
            return count(2) > 0 ? sum / count(2) : 0;
        }
    }

    // What a call answers: its number, or one of these for an exception.
    private static final long OUTSIDE = Long.MIN_VALUE;
    private static final long ARGUMENT = Long.MIN_VALUE + 1;
    private static final long STATE = Long.MIN_VALUE + 2;

    private static long seed = 20261119;

    private static int below(int bound) {
        seed = seed * 6364136223846793005L + 1442695040888963407L;
        return (int) ((seed >>> 33) % bound);
    }

    /** Mostly from least to most, now and then beside that, seldom far off. */
    private static int about(int least, int most) {
        int luck = below(60);
        if (luck == 0) {
            return new int[] {least - 1, most + 1, Integer.MIN_VALUE, Integer.MAX_VALUE, -1}[below(5)];
        }
        return luck == 1 ? least : luck == 2 ? most : least + below(most - least + 1);
    }

    private static boolean in(int value, int least, int most) {
        return value >= least && value <= most;
    }

    private static boolean thereIs(Model m, int lantern) {
        return in(lantern, 0, m.lanterns.size() - 1);
    }

    private static long due(Model m, int call, int a, int b, int c, int d) {
        switch (call) {
            case 0:
                if (!in(a, 0, 2)) {
                    return OUTSIDE;
                } else if (!in(b, 1, 5)) {
                    return ARGUMENT;
                }
                int before = m.currents[a];
                m.currents[a] = b;
                return before;
            case 1:
                if (!in(a, 1, 59)) {
                    return OUTSIDE;
                } else if (!in(b, 1, 9)) {
                    return ARGUMENT;
                } else if (m.weirs.size() == 6 || m.sprayAt(a) > 0) {
                    return STATE;
                }
                m.weirs.add(new int[] {a, b});
                return m.weirs.size();
            case 2:
                if (!in(a, 0, 2) || !in(b, 1, 59)) {
                    return OUTSIDE;
                } else if (m.nets.size() == 4 || m.netAt(a, b)) {
                    return STATE;
                }
                m.nets.add(new int[] {a, b});
                return m.nets.size();
            case 3:
                return in(a, 0, 2) && in(b, 0, 59) && in(c, 0, 3) ? m.river(a, b, c) : OUTSIDE;
            case 4:
                if (!in(a, 0, 2) || !in(c, 0, 2) || !in(d, 0, 59)) {
                    return OUTSIDE;
                } else if (!in(b, 0, 999)) {
                    return ARGUMENT;
                } else if (m.lanterns.size() == 40) {
                    return STATE;
                }
                return m.add(a, b, c, d).number;
            case 8:
                return thereIs(m, a) && in(b, 0, 8) ? m.lanterns.get(a).told(b) : OUTSIDE;
            case 9:
                return thereIs(m, a) ? m.next(m.lanterns.get(a)) : OUTSIDE;
            case 10:
                return in(a, 0, 9) ? m.count(a) : OUTSIDE;
            case 11:
                if (!in(a, 1, 90)) {
                    return ARGUMENT;
                }
                int caught = m.count(3);
                for (int i = 0; i < a; i++) {
                    m.minute();
                }
                return m.count(3) - caught;
            case 12:
                return thereIs(m, a) ? m.burns(a) : OUTSIDE;
            case 13:
                return dueOfForesee(m, a, b);
            case 14:
                return in(a, 0, 2) ? m.advise(a) : OUTSIDE;
            case 15:
                return Double.doubleToLongBits(m.mean());
            case 16:
                return m.digest();
            default:
                return dueOfHands(m, call, a, b);
        }
    }

    private static long dueOfForesee(Model m, int minutes, int what) {
        if (!in(minutes, 1, 90)) {
            return ARGUMENT;
        } else if (what != 9 && !in(what, 2, 6)) {
            return OUTSIDE;
        }
        Model later = m.ahead();
        for (int i = 0; i < minutes; i++) {
            later.minute();
        }
        return later.count(what);
    }

    private static long dueOfHands(Model m, int call, int a, int b) {
        if (!thereIs(m, a) || call == 5 && !in(b, 0, 2)) {
            return OUTSIDE;
        }
        Lantern l = m.lanterns.get(a);
        if (l.state != 0) {
            return STATE;
        }
        if (call == 5) {
            int before = l.lane;
            l.lane = b;
            return before;
        }
        boolean lights = call == 6;
        if (lights == l.burns || lights && (l.wet > Model.TAKES[l.frame] || l.wax == 0)) {
            return STATE;
        }
        l.burns = lights;
        return l.wax;
    }

    private static long answer(LanternWeirs x, int call, int a, int b, int c, int d) {
        switch (call) {
            case 0: return x.setCurrent(a, b);
            case 1: return x.weir(a, b);
            case 2: return x.net(a, b);
            case 3: return x.river(a, b, c);
            case 4: return x.launch(a, b, c, d);
            case 5: return x.push(a, b);
            case 6: return x.light(a);
            case 7: return x.blow(a);
            case 8: return x.told(a, b);
            case 9: return x.next(a);
            case 10: return x.count(a);
            case 11: return x.pass(a);
            case 12: return x.burns(a);
            case 13: return x.foresee(a, b);
            case 14: return x.advise(a);
            case 15: return Double.doubleToLongBits(x.mean());
            default: return x.digest();
        }
    }

    private static long got(LanternWeirs x, int call, int a, int b, int c, int d) {
        try {
            return answer(x, call, a, b, c, d);
        } catch (RuntimeException e) {
            Class<?> kind = e.getClass();
            if (kind == IndexOutOfBoundsException.class) {
                return OUTSIDE;
            }
            return kind == IllegalArgumentException.class ? ARGUMENT : kind == IllegalStateException.class ? STATE
                : Long.MIN_VALUE + 9;
        }
    }

    private static int first(int call, Model m) {
        switch (call) {
            case 0: case 2: case 3: case 4: case 14: return about(0, 2);
            case 1: return about(1, 59);
            case 10: return about(0, 9);
            case 11: return below(3) > 0 ? about(1, 4) : about(1, 90);
            case 13: return about(1, 90);
            default: return about(0, Math.max(0, m.lanterns.size() - 1));
        }
    }

    private static int second(int call) {
        switch (call) {
            case 0: return about(1, 5);
            case 1: return about(1, 9);
            case 2: return about(1, 59);
            case 3: return about(0, 59);
            case 4: return about(0, 999);
            case 5: return about(0, 2);
            case 8: return about(0, 8);
            default: return about(2, below(2) == 0 ? 6 : 9);
        }
    }

    private static void run(int run, int calls, int crowdedTo) {
        Model m = new Model();
        LanternWeirs x = new LanternWeirs();
        for (int i = 0; i < calls; i++) {
            int call = below(3) == 0 ? 4 : below(17);
            int a = first(call, m);
            int b = second(call);
            int c = call == 3 ? about(0, 3) : about(0, 2);
            int d = about(0, crowdedTo);
            String what = "run " + run + ", call " + i + ": kind " + call + " of " + a + ", " + b + ", " + c + ", " + d;
            Expect.same(what, due(m, call, a, b, c, d), got(x, call, a, b, c, d));
            Expect.same(what + ", then digest()", m.digest(), x.digest());
        }
    }

    public static void main(String[] args) {
        for (int run = 0; run < 300; run++) {
            run(run, 40 + below(217), new int[] {3, 12, 30, 59}[run % 4]);
        }
        Expect.end();
    }
}
