import java.util.ArrayList;
import java.util.List;

/**
 * The document once more, word by word and without care for time, so that MinimaRoom can be compared with it:
 * the climb in two steps, and what would be by trying it out.
 */
final class Model {
    static final int NONE = -1;

    static final class Obstacle {
        int x, y, top, from, to;

        boolean isThere(int day) {
            return from <= day && (to == NONE || to >= day);
        }
    }

    static final class Procedure {
        int aid, slope;
    }

    static final class Amendment {
        int procedure, from, height;
    }

    static final class Notice {
        int kind, of, by, from, to;
    }

    final List<Obstacle> obstacles = new ArrayList<>();
    final List<Procedure> procedures = new ArrayList<>();
    final List<Amendment> amendments = new ArrayList<>();
    final List<Notice> notices = new ArrayList<>();
    final int[] kind = {0, 1, 2};
    final int[] check = {27, 27, 27};
    final int[] loaded = {NONE, NONE, NONE, NONE};
    final int[] read = {0, 0, 0, 0};
    int now = 0;
    int told = 0;

    static void index(boolean right) {
        if (!right) {
            throw new IndexOutOfBoundsException();
        }
    }

    static void argument(boolean right) {
        if (!right) {
            throw new IllegalArgumentException();
        }
    }

    static void state(boolean right) {
        if (!right) {
            throw new IllegalStateException();
        }
    }

    static boolean in(int v, int least, int most) {
        return least <= v && v <= most;
    }

    static Obstacle newObstacle(int x, int y, int top, int from, int to) {
        argument(in(x, -20, 60) && in(y, -9, 9) && in(top, 0, 999) && in(from, 0, 399));
        argument(to == NONE || in(to, from, 399));
        Obstacle o = new Obstacle();
        o.x = x;
        o.y = y;
        o.top = top;
        o.from = from;
        o.to = to;
        return o;
    }

    int obstacle(int x, int y, int top, int from, int to) {
        Obstacle o = newObstacle(x, y, top, from, to);
        state(obstacles.size() < 12);
        obstacles.add(o);
        return obstacles.size() - 1;
    }

    int end(int obstacle) {
        index(in(obstacle, 0, obstacles.size() - 1));
        Obstacle o = obstacles.get(obstacle);
        boolean thereLater = false;
        for (int day = now + 1; day <= 1000; day++) {
            thereLater |= o.isThere(day);
        }
        state(thereLater);
        int before = o.to;
        o.to = o.from > now ? o.from : now;
        return before;
    }

    int aid(int aid, int k) {
        index(in(aid, 0, 2));
        argument(in(k, 0, 2));
        int before = kind[aid];
        kind[aid] = k;
        return before;
    }

    int check(int aid, int days) {
        index(in(aid, 0, 2));
        argument(in(days, 0, 200));
        check[aid] = Math.min(399, now + days);
        return check[aid];
    }

    int procedure(int aid, int slope) {
        index(in(aid, 0, 2));
        argument(in(slope, 10, 40));
        state(procedures.size() < 4);
        Procedure p = new Procedure();
        p.aid = aid;
        p.slope = slope;
        procedures.add(p);
        return procedures.size() - 1;
    }

    int pass(int days) {
        argument(in(days, 1, 60));
        state(now + days <= 399);
        int sum = 0;
        for (int i = 0; i < days; i++) {
            now = now + 1;
            for (int p = 0; p < procedures.size(); p++) {
                if (unsafe(p, now)) {
                    sum++;
                }
            }
        }
        told += sum;
        return sum;
    }

    int amend(int procedure) {
        index(in(procedure, 0, procedures.size() - 1));
        int from = now + 14;
        while (from % 28 != 0) {
            from++;
        }
        state(amendments.size() < 20 && from <= 399);
        Amendment a = new Amendment();
        a.procedure = procedure;
        a.from = from;
        for (int day = from; day <= 399 && day / 28 == from / 28; day++) {
            a.height = Math.max(a.height, demandedOf(procedure, day, obstacles));
        }
        amendments.add(a);
        return a.height;
    }

    int notice(int k, int of, int by, int from, int to) {
        state(notices.size() < 16);
        Notice n = new Notice();
        n.kind = k;
        n.of = of;
        n.by = by;
        n.from = from;
        n.to = to;
        notices.add(n);
        return notices.size() - 1;
    }

    int raise(int procedure, int by, int from, int to) {
        index(in(procedure, 0, procedures.size() - 1));
        argument(in(by, 1, 500) && in(from, now, 399) && in(to, from, 399));
        return notice(0, procedure, by, from, to);
    }

    int out(int aid, int from, int to) {
        index(in(aid, 0, 2));
        argument(in(from, now, 399) && in(to, from, 399));
        return notice(1, aid, 0, from, to);
    }

    int close(int procedure, int from, int to) {
        index(in(procedure, 0, procedures.size() - 1));
        argument(in(from, now, 399) && in(to, from, 399));
        return notice(2, procedure, 0, from, to);
    }

    int cancel(int notice) {
        index(in(notice, 0, notices.size() - 1));
        state(notices.get(notice).kind != 3);
        return notice(3, notice, 0, now, NONE);
    }

    int load(int crew) {
        index(in(crew, 0, 3));
        int before = loaded[crew];
        loaded[crew] = now;
        return before;
    }

    int read(int crew) {
        index(in(crew, 0, 3));
        int fresh = notices.size() - read[crew];
        read[crew] = notices.size();
        return fresh;
    }

    int ofObstacle(int obstacle, int what) {
        index(in(obstacle, 0, obstacles.size() - 1));
        argument(in(what, 0, 4));
        Obstacle o = obstacles.get(obstacle);
        return new int[] {o.x, o.y, o.top, o.from, o.to}[what];
    }

    /** NEEDS of one with an X of 0 or more; 0 for nothing. */
    int need(Procedure p, Obstacle o) {
        int k = kind[p.aid];
        int margin = new int[] {30, 75, 90}[k];
        int distance = o.y < 0 ? -o.y : o.y;
        int inner = 1 + o.x / 10;
        if (k == 0 && !(o.top > o.x * p.slope)) {
            return 0;
        }
        if (distance <= inner) {
            return o.top + margin;
        }
        if (distance <= inner * 2) {
            return o.top + margin * (inner * 2 - distance) / inner;
        }
        return 0;
    }

    int demandedOf(int procedure, int day, List<Obstacle> all) {
        Procedure p = procedures.get(procedure);
        int soFar = new int[] {200, 250, 300}[kind[p.aid]];
        for (Obstacle o : all) {
            if (o.x >= 0 && o.isThere(day)) {
                soFar = Math.max(soFar, need(p, o));
            }
        }
        int mostAbove = 0;
        for (Obstacle o : all) {
            if (o.x < 0 && o.isThere(day)) {
                int climb = soFar - 30;
                for (int beyond = 0; beyond > o.x; beyond--) {
                    climb += 25;
                }
                mostAbove = Math.max(mostAbove, o.top - climb);
            }
        }
        int height = soFar + mostAbove;
        while (height % 10 != 0) {
            height++;
        }
        return height;
    }

    int demanded(int procedure, int day, int category) {
        index(in(procedure, 0, procedures.size() - 1));
        argument(in(day, 0, 399) && in(category, 0, 3));
        return demandedOf(procedure, day, obstacles) + category * 10;
    }

    int decides(int procedure, int day) {
        index(in(procedure, 0, procedures.size() - 1));
        argument(in(day, 0, 399));
        int least = Integer.MAX_VALUE;
        int which = NONE;
        for (int i = 0; i < obstacles.size(); i++) {
            List<Obstacle> others = new ArrayList<>(obstacles);
            others.remove(i);
            int without = demandedOf(procedure, day, others);
            if (without < least) {
                least = without;
                which = i;
            }
        }
        return least < demandedOf(procedure, day, obstacles) ? which : NONE;
    }

    int chartOf(int procedure, int day) {
        int height = NONE;
        for (Amendment a : amendments) {
            if (a.procedure == procedure && a.from <= day) {
                height = a.height;
            }
        }
        return height;
    }

    int chart(int procedure, int day) {
        index(in(procedure, 0, procedures.size() - 1));
        argument(in(day, 0, 399));
        return chartOf(procedure, day);
    }

    /** Whether one that is no CANCEL counts, if only these are known. */
    static boolean counts(List<Notice> known, int number, int day) {
        Notice n = known.get(number);
        boolean counts = n.kind != 3 && in(day, n.from, n.to);
        for (Notice c : known) {
            if (c.kind == 3 && c.of == number && c.from <= day) {
                counts = false;
            }
        }
        return counts;
    }

    int byNotices(int chart, int procedure, int day, int category, List<Notice> known) {
        if (chart == NONE) {
            return NONE;
        }
        int greatest = 0;
        for (int i = 0; i < known.size(); i++) {
            Notice n = known.get(i);
            if (counts(known, i, day)) {
                if (n.kind == 1 && n.of == procedures.get(procedure).aid || n.kind == 2 && n.of == procedure) {
                    return NONE;
                }
                if (n.kind == 0 && n.of == procedure && n.by > greatest) {
                    greatest = n.by;
                }
            }
        }
        return chart + category * 10 + greatest;
    }

    boolean good(int aid, int day) {
        return day <= check[aid];
    }

    int inForceOf(int procedure, int day, int category, List<Notice> known) {
        if (!good(procedures.get(procedure).aid, day)) {
            return NONE;
        }
        return byNotices(chartOf(procedure, day), procedure, day, category, known);
    }

    int inForce(int procedure, int day, int category) {
        index(in(procedure, 0, procedures.size() - 1));
        argument(in(day, 0, 399) && in(category, 0, 3));
        return inForceOf(procedure, day, category, notices);
    }

    boolean unsafe(int procedure, int day) {
        int height = inForceOf(procedure, day, 0, notices);
        return height != NONE && height < demandedOf(procedure, day, obstacles);
    }

    int ofNotice(int notice, int what) {
        index(in(notice, 0, notices.size() - 1));
        argument(in(what, 0, 5));
        Notice n = notices.get(notice);
        int counting = n.kind == 3 || counts(notices, notice, now) ? 1 : 0;
        return new int[] {n.kind, n.of, n.by, n.from, n.to, counting}[what];
    }

    int believedOf(int crew, int procedure, int day, int category) {
        int chart = loaded[crew] == NONE ? NONE : chartOf(procedure, loaded[crew]);
        return byNotices(chart, procedure, day, category, notices.subList(0, read[crew]));
    }

    int believes(int crew, int procedure, int day, int category) {
        index(in(crew, 0, 3) && in(procedure, 0, procedures.size() - 1));
        argument(in(day, now, 399) && in(category, 0, 3));
        return believedOf(crew, procedure, day, category);
    }

    int misled(int crew) {
        index(in(crew, 0, 3));
        int set = 0;
        for (int p = 0; p < procedures.size(); p++) {
            int believed = believedOf(crew, p, now, 0);
            int real = inForceOf(p, now, 0, notices);
            if (believed != NONE && (real == NONE || real > believed)) {
                set += Math.pow(2, p);
            }
        }
        return set;
    }

    int many(int what) {
        argument(in(what, 0, 19));
        int counting = 0;
        for (int i = 0; i < notices.size(); i++) {
            counting += counts(notices, i, now) ? 1 : 0;
        }
        int goodSet = 0;
        for (int aid = 0; aid < 3; aid++) {
            goodSet += good(aid, now) ? Math.pow(2, aid) : 0;
        }
        int unsafeSet = 0;
        for (int p = 0; p < procedures.size(); p++) {
            unsafeSet += unsafe(p, now) ? Math.pow(2, p) : 0;
        }
        return new int[] {
            obstacles.size(), now, procedures.size(), amendments.size(), notices.size(), counting, goodSet, unsafeSet,
            told, check[0], check[1], check[2], loaded[0], loaded[1], loaded[2], loaded[3], read[0], read[1], read[2],
            read[3],
        }[what];
    }

    double meanDemanded(int day) {
        argument(in(day, 0, 399));
        double sum = 0;
        for (int p = 0; p < procedures.size(); p++) {
            sum += demandedOf(p, day, obstacles);
        }
        return procedures.isEmpty() ? 0 : sum / procedures.size();
    }

    boolean harms(int procedure, Obstacle wouldBe) {
        List<Obstacle> with = new ArrayList<>(obstacles);
        with.add(wouldBe);
        for (int day = now; day <= 399; day++) {
            if (!wouldBe.isThere(day)) {
                continue;
            }
            int height = inForceOf(procedure, day, 0, notices);
            boolean unsafeWith = height != NONE && height < demandedOf(procedure, day, with);
            boolean unsafeWithout = height != NONE && height < demandedOf(procedure, day, obstacles);
            if (unsafeWith && !unsafeWithout) {
                return true;
            }
        }
        return false;
    }

    int permit(int x, int y, int top, int from, int to) {
        Obstacle wouldBe = newObstacle(x, y, top, from, to);
        int set = 0;
        for (int p = 0; p < procedures.size(); p++) {
            set += harms(p, wouldBe) ? Math.pow(2, p) : 0;
        }
        return set;
    }

    int highest(int x, int y, int from, int to) {
        Obstacle wouldBe = newObstacle(x, y, 0, from, to);
        for (int top = 999; top >= 0; top--) {
            wouldBe.top = top;
            boolean harm = false;
            for (int p = 0; p < procedures.size() && !harm; p++) {
                harm = harms(p, wouldBe);
            }
            if (!harm) {
                return top;
            }
        }
        throw new AssertionError("even a TOP of 0 does HARM");
    }

    int unsafeOn(int procedure) {
        index(in(procedure, 0, procedures.size() - 1));
        for (int day = now; day <= 399; day++) {
            if (unsafe(procedure, day)) {
                return day;
            }
        }
        return NONE;
    }

    boolean unsafeEver(int procedure, List<Notice> known) {
        for (int day = now; day <= 399; day++) {
            int height = inForceOf(procedure, day, 0, known);
            if (height != NONE && height < demandedOf(procedure, day, obstacles)) {
                return true;
            }
        }
        return false;
    }

    int raiseFor(int procedure) {
        index(in(procedure, 0, procedures.size() - 1));
        if (!unsafeEver(procedure, notices)) {
            return 0;
        }
        List<Notice> with = new ArrayList<>(notices);
        Notice n = new Notice();
        n.of = procedure;
        n.from = now;
        n.to = 399;
        with.add(n);
        for (n.by = 1; n.by <= 500; n.by++) {
            if (!unsafeEver(procedure, with)) {
                return n.by;
            }
        }
        return NONE;
    }

    long digest() {
        long d = 4815;
        for (int what = 0; what < 20; what++) {
            d = d * 31 + many(what);
        }
        for (int i = 0; i < obstacles.size(); i++) {
            for (int what = 0; what < 5; what++) {
                d = d * 31 + ofObstacle(i, what);
            }
        }
        for (int p = 0; p < procedures.size(); p++) {
            d = d * 31 + demanded(p, now, 0);
            d = d * 31 + inForce(p, now, 0);
            d = d * 31 + chart(p, now);
            d = d * 31 + chart(p, 399);
            d = d * 31 + decides(p, now);
            d = d * 31 + unsafeOn(p);
            d = d * 31 + raiseFor(p);
        }
        for (int i = 0; i < notices.size(); i++) {
            for (int what = 0; what < 6; what++) {
                d = d * 31 + ofNotice(i, what);
            }
        }
        for (int crew = 0; crew < 4; crew++) {
            d = d * 31 + misled(crew);
            for (int p = 0; p < procedures.size(); p++) {
                d = d * 31 + believes(crew, p, now, 1);
            }
        }
        return d;
    }
}
