/** A room in which it is told how low one may fly down through cloud. */
public final class MinimaRoom {
    private static final int NONE = -1;
    private static final int LAST_DAY = 399;
    private static final int CYCLE = 28;
    private static final int AMENDING_AHEAD = 14;

    private static final int OBSTACLES = 12;
    private static final int AIDS = 3;
    private static final int PROCEDURES = 4;
    private static final int AMENDMENTS = 20;
    private static final int NOTICES = 16;
    private static final int CREWS = 4;

    private static final int GREATEST_TOP = 999;
    private static final int GREATEST_RAISE = 500;
    /** Above all that can ever be DEMANDED or IN FORCE. */
    private static final int ABOVE_ALL = 1_000_000;

    private static final int GLIDE = 0;
    private static final int LINE = 1;

    private static final int RAISE = 0;
    private static final int OUT = 1;
    private static final int CLOSED = 2;
    private static final int CANCEL = 3;

    private final Obstacles obstacles = new Obstacles();
    private final Aids aids = new Aids();
    private final Procedures procedures = new Procedures();
    private final Amendments amendments = new Amendments();
    private final Notices notices = new Notices();
    private final Crews crews = new Crews();
    private int now = 0;
    private int unsafeTold = 0;

    public MinimaRoom() {
    }

    // ---- obstacles and procedures

    public int obstacle(int x, int y, int top, int from, int to)
            throws IllegalArgumentException, IllegalStateException {
        requirePlace(x, y, from, to);
        requireTop(top);
        if (obstacles.count >= OBSTACLES) {
            throw new IllegalStateException("there were 12 obstacles");
        }
        return obstacles.add(x, y, top, from, to);
    }

    public int end(int obstacle) throws IndexOutOfBoundsException, IllegalStateException {
        requireObstacle(obstacle);
        int before = obstacles.tos.at(obstacle);
        if (before != NONE && before <= now) {
            throw new IllegalStateException("it is not there after now anyhow");
        }
        obstacles.tos.put(obstacle, Math.max(now, obstacles.froms.at(obstacle)));
        return before;
    }

    public int aid(int aid, int kind) throws IndexOutOfBoundsException, IllegalArgumentException {
        requireAid(aid);
        requireArgument(kind, 0, 2);
        int before = aids.kinds.at(aid);
        aids.kinds.put(aid, kind);
        return before;
    }

    public int check(int aid, int days) throws IndexOutOfBoundsException, IllegalArgumentException {
        requireAid(aid);
        requireArgument(days, 0, 200);
        int last = Math.min(now + days, LAST_DAY);
        aids.checks.put(aid, last);
        return last;
    }

    public int procedure(int aid, int slope)
            throws IndexOutOfBoundsException, IllegalArgumentException, IllegalStateException {
        requireAid(aid);
        requireArgument(slope, 10, 40);
        if (procedures.count >= PROCEDURES) {
            throw new IllegalStateException("there were 4 procedures");
        }
        return procedures.add(aid, slope);
    }

    public int pass(int days) throws IllegalArgumentException, IllegalStateException {
        requireArgument(days, 1, 60);
        if (now + days > LAST_DAY) {
            throw new IllegalStateException("now would be behind the last day");
        }
        int unsafe = 0;
        for (int passed = 0; passed < days; passed++) {
            now++;
            unsafe += Integer.bitCount(unsafeSet());
        }
        unsafeTold += unsafe;
        return unsafe;
    }

    // ---- charts, notices, crews

    public int amend(int procedure) throws IndexOutOfBoundsException, IllegalStateException {
        requireProcedure(procedure);
        int from = (now + AMENDING_AHEAD + CYCLE - 1) / CYCLE * CYCLE;
        if (amendments.count >= AMENDMENTS || from > LAST_DAY) {
            throw new IllegalStateException("no amendment can be made");
        }
        int height = 0;
        for (int day = from; day < from + CYCLE && day <= LAST_DAY; day++) {
            height = Math.max(height, leastHeight(procedure, day, NONE));
        }
        amendments.add(procedure, from, height);
        return height;
    }

    public int raise(int procedure, int by, int from, int to)
            throws IndexOutOfBoundsException, IllegalArgumentException, IllegalStateException {
        requireProcedure(procedure);
        requireArgument(by, 1, GREATEST_RAISE);
        requireDaysToCome(from, to);
        requireNoticeLeft();
        return notices.add(RAISE, procedure, by, from, to);
    }

    public int out(int aid, int from, int to)
            throws IndexOutOfBoundsException, IllegalArgumentException, IllegalStateException {
        requireAid(aid);
        requireDaysToCome(from, to);
        requireNoticeLeft();
        return notices.add(OUT, aid, 0, from, to);
    }

    public int close(int procedure, int from, int to)
            throws IndexOutOfBoundsException, IllegalArgumentException, IllegalStateException {
        requireProcedure(procedure);
        requireDaysToCome(from, to);
        requireNoticeLeft();
        return notices.add(CLOSED, procedure, 0, from, to);
    }

    public int cancel(int notice) throws IndexOutOfBoundsException, IllegalStateException {
        requireNotice(notice);
        if (notices.kinds.at(notice) == CANCEL) {
            throw new IllegalStateException("a cancel cannot be cancelled");
        }
        requireNoticeLeft();
        return notices.addCancel(notice, now);
    }

    public int load(int crew) throws IndexOutOfBoundsException {
        requireCrew(crew);
        int before = crews.loadedOn.at(crew);
        crews.loadedOn.put(crew, now);
        return before;
    }

    public int read(int crew) throws IndexOutOfBoundsException {
        requireCrew(crew);
        int before = crews.noticesRead.at(crew);
        crews.noticesRead.put(crew, notices.count);
        return notices.count - before;
    }

    // ---- what one asks

    public int ofObstacle(int obstacle, int what) throws IndexOutOfBoundsException, IllegalArgumentException {
        requireObstacle(obstacle);
        requireArgument(what, 0, 4);
        switch (what) {
            case 0:
                return obstacles.xs.at(obstacle);
            case 1:
                return obstacles.ys.at(obstacle);
            case 2:
                return obstacles.tops.at(obstacle);
            case 3:
                return obstacles.froms.at(obstacle);
            default:
                return obstacles.tos.at(obstacle);
        }
    }

    public int demanded(int procedure, int day, int category)
            throws IndexOutOfBoundsException, IllegalArgumentException {
        requireProcedure(procedure);
        requireDay(day);
        requireCategory(category);
        return leastHeight(procedure, day, NONE) + 10 * category;
    }

    public int decides(int procedure, int day) throws IndexOutOfBoundsException, IllegalArgumentException {
        requireProcedure(procedure);
        requireDay(day);
        int least = leastHeight(procedure, day, NONE);
        int deciding = NONE;
        for (int i = 0; i < obstacles.count; i++) {
            int without = leastHeight(procedure, day, i);
            if (without < least) {
                least = without;
                deciding = i;
            }
        }
        return deciding;
    }

    public int chart(int procedure, int day) throws IndexOutOfBoundsException, IllegalArgumentException {
        requireProcedure(procedure);
        requireDay(day);
        return amendments.heightOn(procedure, day);
    }

    public int inForce(int procedure, int day, int category)
            throws IndexOutOfBoundsException, IllegalArgumentException {
        requireProcedure(procedure);
        requireDay(day);
        requireCategory(category);
        return forCategory(heightInForce(procedure, day), category);
    }

    public int ofNotice(int notice, int what) throws IndexOutOfBoundsException, IllegalArgumentException {
        requireNotice(notice);
        requireArgument(what, 0, 5);
        switch (what) {
            case 0:
                return notices.kinds.at(notice);
            case 1:
                return notices.subjects.at(notice);
            case 2:
                return notices.raises.at(notice);
            case 3:
                return notices.froms.at(notice);
            case 4:
                return notices.tos.at(notice);
            default:
                return notices.kinds.at(notice) == CANCEL || notices.isActive(notice, now, notices.count) ? 1 : 0;
        }
    }

    public int believes(int crew, int procedure, int day, int category)
            throws IndexOutOfBoundsException, IllegalArgumentException {
        requireCrew(crew);
        requireProcedure(procedure);
        requireArgument(day, now, LAST_DAY);
        requireCategory(category);
        return forCategory(heightBelieved(crew, procedure, day), category);
    }

    public int misled(int crew) throws IndexOutOfBoundsException {
        requireCrew(crew);
        int set = 0;
        for (int p = 0; p < procedures.count; p++) {
            int believed = heightBelieved(crew, p, now);
            int inForce = heightInForce(p, now);
            if (believed != NONE && (inForce == NONE || inForce > believed)) {
                set |= 1 << p;
            }
        }
        return set;
    }

    public int many(int what) throws IllegalArgumentException {
        requireArgument(what, 0, 19);
        if (what >= 16) {
            return crews.noticesRead.at(what - 16);
        }
        if (what >= 12) {
            return crews.loadedOn.at(what - 12);
        }
        if (what >= 9) {
            return aids.checks.at(what - 9);
        }
        switch (what) {
            case 0:
                return obstacles.count;
            case 1:
                return now;
            case 2:
                return procedures.count;
            case 3:
                return amendments.count;
            case 4:
                return notices.count;
            case 5:
                return notices.activeOn(now);
            case 6:
                return aids.goodOn(now);
            case 7:
                return unsafeSet();
            default:
                return unsafeTold;
        }
    }

    public double meanDemanded(int day) throws IllegalArgumentException {
        requireDay(day);
        if (procedures.count <= 0) {
            return 0;
        }
        int sum = 0;
        for (int p = 0; p < procedures.count; p++) {
            sum += leastHeight(p, day, NONE);
        }
        return (double) sum / procedures.count;
    }

    // ---- what would be (nothing is changed)

    public int permit(int x, int y, int top, int from, int to) throws IllegalArgumentException {
        requirePlace(x, y, from, to);
        requireTop(top);
        int set = 0;
        for (int p = 0; p < procedures.count; p++) {
            if (needWouldBe(p, x, y, top) > heightToKeep(p, from, to)) {
                set |= 1 << p;
            }
        }
        return set;
    }

    public int highest(int x, int y, int from, int to) throws IllegalArgumentException {
        requirePlace(x, y, from, to);
        // A higher TOP never needs less, and one of 0 never more than the BASE: it does no HARM.
        int top = GREATEST_TOP;
        for (int p = 0; p < procedures.count; p++) {
            int keep = heightToKeep(p, from, to);
            while (top > 0 && needWouldBe(p, x, y, top) > keep) {
                top--;
            }
        }
        return top;
    }

    public int unsafeOn(int procedure) throws IndexOutOfBoundsException {
        requireProcedure(procedure);
        for (int day = now; day <= LAST_DAY; day++) {
            int height = heightInForce(procedure, day);
            if (height != NONE && height < leastHeight(procedure, day, NONE)) {
                return day;
            }
        }
        return NONE;
    }

    public int raiseFor(int procedure) throws IndexOutOfBoundsException {
        requireProcedure(procedure);
        int by = 0;
        for (int day = now; day <= LAST_DAY; day++) {
            int height = heightInForce(procedure, day);
            if (height == NONE) {
                continue;
            }
            int least = leastHeight(procedure, day, NONE);
            if (height < least) {
                // The greatest RAISE alone counts: a new one starts at the CHART, not at what is in force.
                by = Math.max(by, least - amendments.heightOn(procedure, day));
            }
        }
        return by <= GREATEST_RAISE ? by : NONE;
    }

    public long digest() {
        long d = 4815;
        for (int what = 0; what < 20; what++) {
            d = d * 31 + many(what);
        }
        for (int i = 0; i < obstacles.count; i++) {
            for (int what = 0; what < 5; what++) {
                d = d * 31 + ofObstacle(i, what);
            }
        }
        for (int p = 0; p < procedures.count; p++) {
            d = d * 31 + demanded(p, now, 0);
            d = d * 31 + inForce(p, now, 0);
            d = d * 31 + chart(p, now);
            d = d * 31 + chart(p, LAST_DAY);
            d = d * 31 + decides(p, now);
            d = d * 31 + unsafeOn(p);
            d = d * 31 + raiseFor(p);
        }
        for (int i = 0; i < notices.count; i++) {
            for (int what = 0; what < 6; what++) {
                d = d * 31 + ofNotice(i, what);
            }
        }
        for (int crew = 0; crew < CREWS; crew++) {
            d = d * 31 + misled(crew);
            for (int p = 0; p < procedures.count; p++) {
                d = d * 31 + believes(crew, p, now, 1);
            }
        }
        return d;
    }

    // ---- heights: all for the CATEGORY 0

    /** What is DEMANDED, with one OBSTACLE left out (NONE: with all). */
    private int leastHeight(int procedure, int day, int leftOut) {
        int kind = kindOf(procedure);
        int slope = procedures.slopes.at(procedure);
        int height = baseOf(kind);
        for (int i = 0; i < obstacles.count; i++) {
            if (i != leftOut && obstacles.isThere(i, day)) {
                int need = needOf(obstacles.xs.at(i), obstacles.ys.at(i), obstacles.tops.at(i), kind, slope);
                height = Math.max(height, need);
            }
        }
        return roundedUp(height);
    }

    private int heightInForce(int procedure, int day) {
        int aid = procedures.aids.at(procedure);
        if (!aids.isGood(aid, day)) {
            return NONE;
        }
        int chart = amendments.heightOn(procedure, day);
        return notices.applyTo(chart, procedure, aid, day, notices.count);
    }

    private int heightBelieved(int crew, int procedure, int day) {
        int loadedOn = crews.loadedOn.at(crew);
        if (loadedOn == NONE) {
            return NONE;
        }
        int chart = amendments.heightOn(procedure, loadedOn);
        return notices.applyTo(chart, procedure, procedures.aids.at(procedure), day, crews.noticesRead.at(crew));
    }

    private int unsafeSet() {
        int set = 0;
        for (int p = 0; p < procedures.count; p++) {
            int height = heightInForce(p, now);
            if (height != NONE && height < leastHeight(p, now, NONE)) {
                set |= 1 << p;
            }
        }
        return set;
    }

    /**
     * The least that is IN FORCE on a DAY from now on that is not UNSAFE yet. What would need more would do HARM:
     * with it DEMANDED is the greater of what it is without it and of what it alone would need.
     */
    private int heightToKeep(int procedure, int from, int to) {
        int keep = ABOVE_ALL;
        int last = to == NONE ? LAST_DAY : to;
        for (int day = Math.max(from, now); day <= last; day++) {
            int height = heightInForce(procedure, day);
            if (height != NONE && height < keep && height >= leastHeight(procedure, day, NONE)) {
                keep = height;
            }
        }
        return keep;
    }

    private int needWouldBe(int procedure, int x, int y, int top) {
        return roundedUp(needOf(x, y, top, kindOf(procedure), procedures.slopes.at(procedure)));
    }

    private int kindOf(int procedure) {
        return aids.kinds.at(procedures.aids.at(procedure));
    }

    /** How high an OBSTACLE alone makes what is DEMANDED, where it is more than the BASE. */
    private static int needOf(int x, int y, int top, int kind, int slope) {
        if (x < 0) {
            // The climb begins at what is demanded so far; with what the TOP is above the climb added to it, it
            // comes to this, whatever was demanded so far.
            return top + 30 + 25 * x;
        }
        if (kind == GLIDE && top <= x * slope) {
            return 0;
        }
        int inner = 1 + x / 10;
        int distance = Math.abs(y);
        if (distance <= inner) {
            return top + marginOf(kind);
        }
        if (distance <= 2 * inner && inner > 0) {
            return top + marginOf(kind) * (2 * inner - distance) / inner;
        }
        return 0;
    }

    private static int marginOf(int kind) {
        return kind == GLIDE ? 30 : kind == LINE ? 75 : 90;
    }

    private static int baseOf(int kind) {
        return kind == GLIDE ? 200 : kind == LINE ? 250 : 300;
    }

    private static int roundedUp(int height) {
        return (height + 9) / 10 * 10;
    }

    private static int forCategory(int height, int category) {
        return height == NONE ? NONE : height + 10 * category;
    }

    // ---- what calls must keep to

    private void requireObstacle(int obstacle) {
        if (obstacle < 0 || obstacle >= obstacles.count) {
            throw new IndexOutOfBoundsException("no such obstacle");
        }
    }

    private void requireProcedure(int procedure) {
        if (procedure < 0 || procedure >= procedures.count) {
            throw new IndexOutOfBoundsException("no such procedure");
        }
    }

    private void requireNotice(int notice) {
        if (notice < 0 || notice >= notices.count) {
            throw new IndexOutOfBoundsException("no such notice");
        }
    }

    private void requireNoticeLeft() {
        if (notices.count >= NOTICES) {
            throw new IllegalStateException("there were 16 notices");
        }
    }

    private void requireDaysToCome(int from, int to) {
        requireArgument(from, now, LAST_DAY);
        requireArgument(to, from, LAST_DAY);
    }

    private static void requireAid(int aid) {
        if (aid < 0 || aid >= AIDS) {
            throw new IndexOutOfBoundsException("no such aid");
        }
    }

    private static void requireCrew(int crew) {
        if (crew < 0 || crew >= CREWS) {
            throw new IndexOutOfBoundsException("no such crew");
        }
    }

    private static void requirePlace(int x, int y, int from, int to) {
        requireArgument(x, -20, 60);
        requireArgument(y, -9, 9);
        requireDay(from);
        if (to != NONE) {
            requireArgument(to, from, LAST_DAY);
        }
    }

    private static void requireTop(int top) {
        requireArgument(top, 0, GREATEST_TOP);
    }

    private static void requireDay(int day) {
        requireArgument(day, 0, LAST_DAY);
    }

    private static void requireCategory(int category) {
        requireArgument(category, 0, 3);
    }

    private static void requireArgument(int value, int least, int greatest) {
        if (value < least || value > greatest) {
            throw new IllegalArgumentException("a number is out of its bounds");
        }
    }

    /** A row of numbers; outside of it nothing is kept and NONE is read, so that no index can go astray. */
    private static final class Row {
        private final int[] cells;

        Row(int length, int first) {
            cells = new int[length < 0 ? 0 : length];
            for (int i = 0; i < cells.length; i++) {
                cells[i] = first;
            }
        }

        int at(int i) {
            return i >= 0 && i < cells.length ? cells[i] : NONE;
        }

        void put(int i, int value) {
            if (i >= 0 && i < cells.length) {
                cells[i] = value;
            }
        }
    }

    private static final class Obstacles {
        private final Row xs = new Row(OBSTACLES, 0);
        private final Row ys = new Row(OBSTACLES, 0);
        private final Row tops = new Row(OBSTACLES, 0);
        private final Row froms = new Row(OBSTACLES, 0);
        private final Row tos = new Row(OBSTACLES, 0);
        private int count = 0;

        int add(int x, int y, int top, int from, int to) {
            int number = count;
            xs.put(number, x);
            ys.put(number, y);
            tops.put(number, top);
            froms.put(number, from);
            tos.put(number, to);
            count++;
            return number;
        }

        boolean isThere(int i, int day) {
            int to = tos.at(i);
            return day >= froms.at(i) && (to == NONE || day <= to);
        }
    }

    private static final class Aids {
        private final Row kinds = new Row(AIDS, 0);
        private final Row checks = new Row(AIDS, 27);

        Aids() {
            for (int aid = 0; aid < AIDS; aid++) {
                kinds.put(aid, aid);
            }
        }

        boolean isGood(int aid, int day) {
            return day <= checks.at(aid);
        }

        int goodOn(int day) {
            int set = 0;
            for (int aid = 0; aid < AIDS; aid++) {
                if (isGood(aid, day)) {
                    set |= 1 << aid;
                }
            }
            return set;
        }
    }

    private static final class Procedures {
        private final Row aids = new Row(PROCEDURES, 0);
        private final Row slopes = new Row(PROCEDURES, 0);
        private int count = 0;

        int add(int aid, int slope) {
            int number = count;
            aids.put(number, aid);
            slopes.put(number, slope);
            count++;
            return number;
        }
    }

    private static final class Amendments {
        private final Row procedures = new Row(AMENDMENTS, 0);
        private final Row froms = new Row(AMENDMENTS, 0);
        private final Row heights = new Row(AMENDMENTS, 0);
        private int count = 0;

        void add(int procedure, int from, int height) {
            procedures.put(count, procedure);
            froms.put(count, from);
            heights.put(count, height);
            count++;
        }

        /** The CHART. A later AMENDMENT never comes into force ahead of an earlier one: the last that fits is it. */
        int heightOn(int procedure, int day) {
            for (int i = count - 1; i >= 0; i--) {
                if (procedures.at(i) == procedure && froms.at(i) <= day) {
                    return heights.at(i);
                }
            }
            return NONE;
        }
    }

    private static final class Notices {
        private final Row kinds = new Row(NOTICES, 0);
        private final Row subjects = new Row(NOTICES, 0);
        private final Row raises = new Row(NOTICES, 0);
        private final Row froms = new Row(NOTICES, 0);
        private final Row tos = new Row(NOTICES, 0);
        /** Of a NOTICE the first CANCEL: no later one ends it sooner, or is READ sooner. */
        private final Row cancels = new Row(NOTICES, NONE);
        private int count = 0;

        int add(int kind, int subject, int by, int from, int to) {
            int number = count;
            kinds.put(number, kind);
            subjects.put(number, subject);
            raises.put(number, by);
            froms.put(number, from);
            tos.put(number, to);
            count++;
            return number;
        }

        int addCancel(int notice, int day) {
            int number = add(CANCEL, notice, 0, day, NONE);
            if (cancels.at(notice) == NONE) {
                cancels.put(notice, number);
            }
            return number;
        }

        /** Whether a NOTICE that is no CANCEL counts, for one who knows only those with numbers below known. */
        boolean isActive(int i, int day, int known) {
            if (kinds.at(i) == CANCEL || day < froms.at(i) || day > tos.at(i)) {
                return false;
            }
            int cancel = cancels.at(i);
            return cancel == NONE || cancel >= known || froms.at(cancel) > day;
        }

        int activeOn(int day) {
            int active = 0;
            for (int i = 0; i < count; i++) {
                if (isActive(i, day, count)) {
                    active++;
                }
            }
            return active;
        }

        /** What known NOTICES make of a CHART: NONE, or the CHART and the greatest RAISE. */
        int applyTo(int chart, int procedure, int aid, int day, int known) {
            int raise = 0;
            for (int i = 0; i < known && chart != NONE; i++) {
                if (!isActive(i, day, known)) {
                    continue;
                }
                int subject = subjects.at(i);
                int kind = kinds.at(i);
                if (kind == OUT && subject == aid || kind == CLOSED && subject == procedure) {
                    return NONE;
                }
                if (kind == RAISE && subject == procedure) {
                    raise = Math.max(raise, raises.at(i));
                }
            }
            return chart == NONE ? NONE : chart + raise;
        }
    }

    private static final class Crews {
        private final Row loadedOn = new Row(CREWS, NONE);
        private final Row noticesRead = new Row(CREWS, 0);
    }
}
