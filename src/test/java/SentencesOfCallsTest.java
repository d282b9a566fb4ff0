import java.math.BigInteger;

/** The sentences of the promises that name a boundary and are not of one number alone, one by one. */
public final class SentencesOfCallsTest {
    private static final int NONE = -1;
    private static final Due due = new Due();

    public static void main(String[] args) {
        roomsOfTheirOwn();
        notThereAfterNow();
        toIsNowOrFrom();
        endInFullRoom();
        nowAbove399();
        howOftenUnsafe();
        theFirstNamed();
        decidesLeast();
        countsOnNow();
        manyOfFullRoom();
        meanNotRounded();
        firstUnsafeDay();
        leastRaise();
        raiseIsEnough();
        digestWraps();
        theLastCallOf512();
        due.end();
    }

    private static void roomsOfTheirOwn() {
        due.sentence("1, a room without OBSTACLES and PROCEDURES");
        MinimaRoom full = Rooms.full();
        MinimaRoom room = Rooms.empty();
        due.is("OBSTACLES", room.many(0), 0);
        due.is("PROCEDURES", room.many(2), 0);
        due.is("NOTICES", room.many(4), 0);
        due.is("the first OBSTACLE", room.obstacle(0, 0, 0, 0, NONE), 0);
        due.is("the first PROCEDURE", room.procedure(2, 20), 0);
        due.is("its CHART", room.chart(0, 399), NONE);
        due.is("the full room stays full", full.many(0), 12);
        due.is("the full room stays full", full.many(2), 4);
    }

    private static void notThereAfterNow() {
        due.sentence("3, if it is not there after NOW anyhow");
        MinimaRoom room = Rooms.empty();
        room.obstacle(0, 0, 1, 0, 49);
        room.obstacle(0, 0, 2, 0, 50);
        room.obstacle(0, 0, 3, 0, 51);
        room.obstacle(0, 0, 4, 50, 50);
        room.obstacle(0, 0, 5, 51, 51);
        room.obstacle(0, 0, 6, 0, 399);
        room.obstacle(0, 0, 7, 0, NONE);
        Rooms.passTo(room, 50);
        due.refused(room, "TO yesterday", Due.STATE, () -> room.end(0));
        due.refused(room, "TO today", Due.STATE, () -> room.end(1));
        due.refused(room, "FROM and TO today", Due.STATE, () -> room.end(3));
        due.is("TO tomorrow", room.end(2), 51);
        due.is("FROM and TO tomorrow", room.end(4), 51);
        due.is("TO the last DAY", room.end(5), 399);
        due.is("for good", room.end(6), NONE);
        int[] tos = {49, 50, 50, 50, 51, 50, 50};
        for (int i = 0; i < tos.length; i++) {
            due.is("TO of " + i, room.ofObstacle(i, 4), tos[i]);
        }
        due.refused(room, "TO today by end()", Due.STATE, () -> room.end(6));
        MinimaRoom last = Rooms.empty();
        last.obstacle(0, 0, 1, 0, 399);
        last.obstacle(0, 0, 2, 399, NONE);
        Rooms.passTo(last, 399);
        due.refused(last, "TO the last DAY, today", Due.STATE, () -> last.end(0));
        due.is("for good, on the last DAY", last.end(1), NONE);
        due.is("its TO", last.ofObstacle(1, 4), 399);
        due.refused(last, "no longer for good", Due.STATE, () -> last.end(1));
    }

    private static void toIsNowOrFrom() {
        due.sentence("3, its TO is NOW (of one that is not there yet it is FROM)");
        MinimaRoom room = Rooms.empty();
        room.procedure(1, 20);
        room.obstacle(0, 0, 325, 19, NONE);
        room.obstacle(0, 0, 425, 20, NONE);
        room.obstacle(0, 0, 525, 21, NONE);
        room.obstacle(0, 0, 625, 399, 399);
        Rooms.passTo(room, 20);
        for (int i = 0; i < 4; i++) {
            due.is("TO before", room.end(i), i == 3 ? 399 : NONE);
        }
        int[] tos = {20, 20, 21, 399};
        for (int i = 0; i < tos.length; i++) {
            due.is("TO of " + i, room.ofObstacle(i, 4), tos[i]);
            due.is("FROM of " + i, room.ofObstacle(i, 3), i == 3 ? 399 : 19 + i);
        }
        due.is("yesterday", room.demanded(0, 19, 0), 400);
        due.is("today", room.demanded(0, 20, 0), 500);
        due.is("tomorrow", room.demanded(0, 21, 0), 600);
        due.is("then", room.demanded(0, 22, 0), 250);
        due.is("the last DAY but one", room.demanded(0, 398, 0), 250);
        due.is("the last DAY", room.demanded(0, 399, 0), 700);
    }

    private static void endInFullRoom() {
        due.sentence("3, in a full room");
        MinimaRoom room = Rooms.full();
        due.refused(room, "end(12)", Due.INDEX, () -> room.end(12));
        due.is("the last of twelve", room.end(11), NONE);
        due.is("its TO", room.ofObstacle(11, 4), 0);
        due.refused(room, "once more", Due.STATE, () -> room.end(11));
        due.refused(room, "end() gives no place", Due.STATE, () -> room.obstacle(0, 0, 0, 0, NONE));
        due.is("OBSTACLES", room.many(0), 12);
    }

    private static void nowAbove399() {
        due.sentence("7, if NOW would be above 399");
        for (MinimaRoom room : new MinimaRoom[] {Rooms.empty(), Rooms.full()}) {
            Rooms.passTo(room, 339);
            due.is("60 to 399", room.pass(60), 0);
            due.is("NOW", room.many(1), 399);
            for (int days : new int[] {1, 2, 60}) {
                due.refused(room, days + " more", Due.STATE, () -> room.pass(days));
            }
            for (int days : new int[] {0, 61, NONE, Integer.MAX_VALUE, Integer.MIN_VALUE}) {
                due.refused(room, days + " are wrong at any time", Due.ARGUMENT, () -> room.pass(days));
            }
        }
        MinimaRoom near = Rooms.passTo(Rooms.empty(), 340);
        due.refused(near, "60 to 400", Due.STATE, () -> near.pass(60));
        due.is("NOW stays", near.many(1), 340);
        due.is("59 to 399", near.pass(59), 0);
        MinimaRoom first = Rooms.empty();
        due.is("one DAY", first.pass(1), 0);
        due.is("NOW", first.many(1), 1);
        due.is("60 DAYS", first.pass(60), 0);
        due.is("NOW", first.many(1), 61);
    }

    private static void howOftenUnsafe() {
        due.sentence("7, on each DAY that NOW becomes, by what is told by now, each PROCEDURE by itself");
        MinimaRoom room = Rooms.charted();
        room.obstacle(0, 0, 600, 50, 52);
        Rooms.passTo(room, 49);
        due.is("nothing so far", room.many(8), 0);
        due.is("to the first DAY", room.pass(1), 3);
        due.is("the DAY of NOW is not told again", room.pass(1), 3);
        due.is("to the last DAY", room.pass(1), 3);
        due.is("to the DAY behind", room.pass(1), 0);
        due.is("in all", room.many(8), 9);
        room.obstacle(0, 0, 600, 40, 53);
        due.is("what is gone is not told", room.pass(1), 0);
        due.is("in all", room.many(8), 9);
        room.obstacle(0, 0, 600, 399, 399);
        Rooms.passTo(room, 339);
        room.check(0, 60);
        room.check(2, 59);
        due.is("the last DAY, the GLIDE alone", room.pass(60), 1);
        due.is("in all", room.many(8), 10);
        due.refused(room, "what is refused tells nothing", Due.STATE, () -> room.pass(1));
        due.is("in all", room.many(8), 10);
    }

    private static void theFirstNamed() {
        due.sentence("the one that is named first is thrown");
        MinimaRoom room = Rooms.passTo(Rooms.full(), 399);
        due.refused(room, "obstacle", Due.ARGUMENT, () -> room.obstacle(61, 10, 1000, 400, -2));
        due.refused(room, "obstacle", Due.STATE, () -> room.obstacle(60, 9, 999, 399, NONE));
        due.refused(room, "end", Due.INDEX, () -> room.end(12));
        due.refused(room, "aid", Due.INDEX, () -> room.aid(3, 3));
        due.refused(room, "check", Due.INDEX, () -> room.check(NONE, 201));
        due.refused(room, "procedure", Due.INDEX, () -> room.procedure(3, 41));
        due.refused(room, "procedure", Due.ARGUMENT, () -> room.procedure(2, 41));
        due.refused(room, "procedure", Due.STATE, () -> room.procedure(2, 40));
        due.refused(room, "pass", Due.ARGUMENT, () -> room.pass(61));
        due.refused(room, "amend", Due.INDEX, () -> room.amend(4));
        due.refused(room, "amend", Due.STATE, () -> room.amend(3));
        due.refused(room, "raise", Due.INDEX, () -> room.raise(4, 501, 398, 397));
        due.refused(room, "raise", Due.ARGUMENT, () -> room.raise(3, 501, 399, 399));
        due.refused(room, "raise", Due.ARGUMENT, () -> room.raise(3, 500, 398, 399));
        due.refused(room, "raise", Due.STATE, () -> room.raise(3, 500, 399, 399));
        due.refused(room, "out", Due.INDEX, () -> room.out(3, 398, 397));
        due.refused(room, "out", Due.ARGUMENT, () -> room.out(2, 399, 398));
        due.refused(room, "out", Due.STATE, () -> room.out(2, 399, 399));
        due.refused(room, "close", Due.INDEX, () -> room.close(4, 398, 397));
        due.refused(room, "close", Due.ARGUMENT, () -> room.close(3, 398, 398));
        due.refused(room, "close", Due.STATE, () -> room.close(3, 399, 399));
        due.refused(room, "cancel", Due.INDEX, () -> room.cancel(16));
        due.refused(room, "cancel", Due.STATE, () -> room.cancel(15));
        due.refused(room, "ofObstacle", Due.INDEX, () -> room.ofObstacle(12, 5));
        due.refused(room, "demanded", Due.INDEX, () -> room.demanded(4, 400, 4));
        due.refused(room, "decides", Due.INDEX, () -> room.decides(4, 400));
        due.refused(room, "chart", Due.INDEX, () -> room.chart(4, 400));
        due.refused(room, "inForce", Due.INDEX, () -> room.inForce(4, 400, 4));
        due.refused(room, "ofNotice", Due.INDEX, () -> room.ofNotice(16, 6));
        due.refused(room, "believes", Due.INDEX, () -> room.believes(4, 0, 398, 4));
        due.refused(room, "believes", Due.INDEX, () -> room.believes(0, 4, 398, 4));
        due.refused(room, "believes", Due.ARGUMENT, () -> room.believes(3, 3, 398, 3));
        due.refused(room, "believes", Due.ARGUMENT, () -> room.believes(3, 3, 399, 4));
    }

    private static void decidesLeast() {
        due.sentence("17, without which DEMANDED would be least; of several the smallest number");
        MinimaRoom room = Rooms.empty();
        room.procedure(1, 10);
        due.is("of no OBSTACLES", room.decides(0, 399), NONE);
        room.obstacle(0, 2, 250, 0, NONE);
        due.is("just the BASE", room.decides(0, 0), NONE);
        room.obstacle(0, 2, 251, 10, NONE);
        due.is("one above the BASE", room.decides(0, 10), 1);
        room.obstacle(0, 2, 260, 20, NONE);
        due.is("alike, when rounded up", room.decides(0, 20), NONE);
        room.obstacle(0, 2, 261, 30, NONE);
        due.is("one above them", room.decides(0, 30), 3);
        room.obstacle(-1, 0, 265, 30, NONE);
        due.is("the climb to the same ten", room.decides(0, 30), NONE);
        room.obstacle(-1, 9, 276, 40, NONE);
        due.is("the climb is one ten higher", room.decides(0, 40), 5);
        MinimaRoom full = Rooms.full();
        due.is("none of twelve", full.decides(0, 0), NONE);
        MinimaRoom twelve = Rooms.empty();
        twelve.procedure(0, 10);
        for (int i = 0; i < 12; i++) {
            twelve.obstacle(0, 0, i == 0 || i == 11 ? 600 : 500, i == 0 ? 10 : 0, i == 11 ? 10 : NONE);
        }
        due.is("the last", twelve.decides(0, 9), 11);
        due.is("the first and the last", twelve.decides(0, 10), NONE);
        due.is("the first", twelve.decides(0, 11), 0);
    }

    private static void countsOnNow() {
        due.sentence("20, 1 if it counts on NOW (of a CANCEL 1), otherwise 0");
        MinimaRoom room = Rooms.charted();
        room.raise(0, 5, 3, 4);
        room.raise(0, 500, 0, 399);
        room.cancel(1);
        int[] counts = {0, 0, 0, 1, 1, 0, 0};
        for (int i = 0; i < counts.length; i++) {
            due.is("on " + i, room.ofNotice(0, 5), counts[i]);
            due.is("CANCELLED on its first DAY", room.ofNotice(1, 5), 0);
            due.is("the CANCEL", room.ofNotice(2, 5), 1);
            due.is("many(5)", room.many(5), counts[i]);
            room.pass(1);
        }
        due.sentence("20, by how much it RAISES (0 of others)");
        room.out(2, 399, 399);
        room.close(2, 399, 399);
        int[][] want = {{0, 0, 5, 3, 4}, {0, 0, 500, 0, 399}, {3, 1, 0, 0, NONE}, {1, 2, 0, 399, 399}, {2, 2, 0, 399, 399}};
        for (int n = 0; n < want.length; n++) {
            for (int what = 0; what < 5; what++) {
                due.is("ofNotice(" + n + ", " + what + ")", room.ofNotice(n, what), want[n][what]);
            }
        }
        MinimaRoom full = Rooms.full();
        due.is("the last of 16", full.ofNotice(15, 0), 3);
        due.is("what it CANCELS", full.ofNotice(15, 1), 0);
    }

    private static void manyOfFullRoom() {
        due.sentence("23, of an empty room and of a full one");
        MinimaRoom empty = Rooms.empty();
        int[] ofEmpty = {0, 0, 0, 0, 0, 0, 7, 0, 0, 27, 27, 27, NONE, NONE, NONE, NONE, 0, 0, 0, 0};
        for (int what = 0; what < 20; what++) {
            due.is("many(" + what + ")", empty.many(what), ofEmpty[what]);
        }
        MinimaRoom full = Rooms.full();
        for (int crew = 0; crew < 4; crew++) {
            Rooms.passTo(full, 100 * crew);
            full.load(crew);
        }
        full.check(0, 99);
        full.check(2, 200);
        full.read(3);
        Rooms.passTo(full, 399);
        int[] ofFull = {12, 399, 4, 20, 16, 14, 5, 0, 0, 399, 27, 399, 0, 100, 200, 300, 0, 0, 0, 16};
        for (int what = 0; what < 20; what++) {
            due.is("many(" + what + ")", full.many(what), ofFull[what]);
        }
        MinimaRoom unsafe = Rooms.full();
        unsafe.end(0);
        for (int aid = 0; aid < 3; aid++) {
            unsafe.aid(aid, 2);
            unsafe.check(aid, 28);
        }
        due.is("UNSAFE by another KIND", Rooms.passTo(unsafe, 28).many(7), 11);
        due.is("the sum of what pass() told", unsafe.many(8), 3);
    }

    private static void meanNotRounded() {
        due.sentence("24, not rounded; 0 without any");
        MinimaRoom room = Rooms.empty();
        due.isReal("without any", room.meanDemanded(0), 0.0);
        due.isReal("without any", room.meanDemanded(399), 0.0);
        room.obstacle(0, 0, 999, 0, NONE);
        due.isReal("without any, but an OBSTACLE", room.meanDemanded(0), 0.0);
        due.isReal("of four", Rooms.full().meanDemanded(399), 237.5);
        MinimaRoom three = Rooms.empty();
        three.procedure(0, 20);
        three.procedure(0, 20);
        three.procedure(1, 20);
        due.isReal("of three", three.meanDemanded(0), 650.0 / 3);
        three.obstacle(0, 2, 260, 399, 399);
        due.isReal("ahead", three.meanDemanded(398), 650.0 / 3);
        due.isReal("on the last DAY", three.meanDemanded(399), 260.0);
    }

    private static void firstUnsafeDay() {
        due.sentence("27, the first DAY from NOW on; NONE, if there is none up to 399");
        MinimaRoom room = Rooms.charted();
        room.obstacle(0, 0, 600, 0, 28);
        due.is("the first CHART, the last DAY of the OBSTACLE", room.unsafeOn(0), 28);
        Rooms.passTo(room, 28);
        due.is("NOW", room.unsafeOn(0), 28);
        due.is("many(7)", room.many(7), 7);
        room.pass(1);
        due.is("gone", room.unsafeOn(0), NONE);
        due.is("many(7)", room.many(7), 0);
        room.obstacle(0, 0, 600, 399, NONE);
        due.is("not GOOD then", room.unsafeOn(0), NONE);
        Rooms.passTo(room, 200);
        room.check(0, 198);
        due.is("GOOD up to 398", room.unsafeOn(0), NONE);
        room.check(0, 199);
        due.is("the last DAY", room.unsafeOn(0), 399);
        Rooms.passTo(room, 399);
        due.is("NOW is the last DAY", room.unsafeOn(0), 399);
        room.out(0, 399, 399);
        due.is("OUT", room.unsafeOn(0), NONE);
        due.is("in a full room", Rooms.full().unsafeOn(3), NONE);
    }

    private static void leastRaise() {
        due.sentence("28, 0, if there is none; not above 500; NONE, if 500 is too little");
        MinimaRoom room = Rooms.charted();
        due.is("none", room.raiseFor(0), 0);
        room.obstacle(0, 2, 200, 30, 30);
        due.is("none is UNSAFE", room.raiseFor(0), 0);
        room.obstacle(0, 2, 201, 30, 30);
        due.is("the least", room.raiseFor(0), 10);
        room.obstacle(0, 2, 700, 31, 31);
        due.is("the greatest", room.raiseFor(0), 500);
        room.obstacle(0, 2, 701, 32, 32);
        due.is("ten too little", room.raiseFor(0), NONE);
        due.is("of the LINE", room.raiseFor(1), 460);
        room.raise(1, 459, 30, 32);
        due.is("one is left", room.raiseFor(1), 460);
        room.raise(1, 460, 32, 32);
        due.is("none is left", room.raiseFor(1), 0);
        Rooms.passTo(room, 31);
        due.is("500 is too little NOW and tomorrow", room.raiseFor(0), NONE);
        room.close(0, 32, 32);
        due.is("500 is enough NOW", room.raiseFor(0), 500);
        room.pass(1);
        due.is("none is left", room.raiseFor(0), 0);
        MinimaRoom last = Rooms.full();
        due.is("in a full room", last.raiseFor(3), 0);
        Rooms.passTo(last, 399);
        last.check(0, 0);
        last.aid(0, 2);
        due.is("another KIND on the last DAY", last.raiseFor(0), 100);
        due.is("the RAISE that there is is 15", last.inForce(3, 399, 0), 215);
        due.is("it is not added", last.raiseFor(3), 100);
    }

    /** A RAISE by what raiseFor() tells is enough, and one by 1 less is not. */
    private static void raiseIsEnough() {
        due.sentence("28, the least RAISE from NOW to 399 by which no DAY from NOW on would be UNSAFE");
        for (int less = 0; less <= 1; less++) {
            MinimaRoom room = Rooms.charted();
            room.obstacle(0, 2, 333, 100, 105);
            room.raise(0, 77, 90, 120);
            Rooms.passTo(room, 60);
            due.is("raiseFor()", room.raiseFor(0), 140);
            room.raise(0, 140 - less, 60, 399);
            due.is("with it", room.unsafeOn(0), less == 0 ? NONE : 100);
            due.is("and then", room.raiseFor(0), less == 0 ? 0 : 140);
        }
    }

    private static void digestWraps() {
        due.sentence("29, which wraps around as a 64-bit integer");
        for (int now : new int[] {0, 28, 399}) {
            due.is("an empty room on " + now, Rooms.passTo(Rooms.empty(), now).digest(), digestOf(Rooms.passTo(Rooms.empty(), now)));
            due.is("one of each on " + now, Rooms.passTo(Rooms.one(), now).digest(), digestOf(Rooms.passTo(Rooms.one(), now)));
            due.is("a full room on " + now, Rooms.passTo(Rooms.full(), now).digest(), digestOf(Rooms.passTo(Rooms.full(), now)));
        }
        MinimaRoom room = Rooms.full();
        due.is("digest() changes nothing", room.digest(), room.digest());
    }

    private static long digestOf(MinimaRoom room) {
        BigInteger d = BigInteger.valueOf(4815);
        for (int what = 0; what <= 19; what++) {
            d = with(d, room.many(what));
        }
        int now = room.many(1);
        int procedures = room.many(2);
        int notices = room.many(4);
        int obstacles = room.many(0);
        for (int i = 0; i < obstacles; i++) {
            for (int what = 0; what <= 4; what++) {
                d = with(d, room.ofObstacle(i, what));
            }
        }
        for (int p = 0; p < procedures; p++) {
            d = with(d, room.demanded(p, now, 0));
            d = with(d, room.inForce(p, now, 0));
            d = with(d, room.chart(p, now));
            d = with(d, room.chart(p, 399));
            d = with(d, room.decides(p, now));
            d = with(d, room.unsafeOn(p));
            d = with(d, room.raiseFor(p));
        }
        for (int i = 0; i < notices; i++) {
            for (int what = 0; what <= 5; what++) {
                d = with(d, room.ofNotice(i, what));
            }
        }
        for (int crew = 0; crew <= 3; crew++) {
            d = with(d, room.misled(crew));
            for (int p = 0; p < procedures; p++) {
                d = with(d, room.believes(crew, p, now, 1));
            }
        }
        return d.longValue();
    }

    private static BigInteger with(BigInteger d, int v) {
        return d.multiply(BigInteger.valueOf(31)).add(BigInteger.valueOf(v));
    }

    private static void theLastCallOf512() {
        due.sentence("an object is used for at most 512 calls");
        MinimaRoom room = Rooms.empty();
        for (int i = 0; i < 255; i++) {
            due.is("check()", room.check(0, i % 201), i % 201);
            due.is("aid()", room.aid(1, i % 3), i == 0 ? 1 : (i - 1) % 3);
        }
        due.is("the 511th call", room.many(9), 254 % 201);
        due.is("the 512th call", room.aid(1, 0), 254 % 3);
    }
}
