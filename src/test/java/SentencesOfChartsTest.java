/** The sentences of the sections 3 to 6 that name a boundary, one by one, at that boundary and one behind it. */
public final class SentencesOfChartsTest {
    private static final int NONE = -1;
    private static final Due due = new Due();

    public static void main(String[] args) {
        twentyAmendments();
        intoForce();
        heightOfItsCycle();
        asKnownAtNow();
        chart();
        sixteenNotices();
        countsFromTo();
        cancelledOnThatDay();
        inForceIsNone();
        greatestRaise();
        unsafe();
        loaded();
        readBelowOne();
        believes();
        harmOnSomeDay();
        harmAlone();
        due.end();
    }

    private static void twentyAmendments() {
        due.sentence("3, at most 20 ever in all");
        MinimaRoom room = Rooms.empty();
        for (int p = 0; p < 4; p++) {
            room.procedure(p % 3, 20);
        }
        for (int i = 0; i < 20; i++) {
            if (i == 10) {
                Rooms.passTo(room, 50);
            }
            due.is("its HEIGHT", room.amend(i % 4), 200 + 50 * (i % 4 % 3));
            due.is("AMENDMENTS", room.many(3), i + 1);
        }
        for (int p = 0; p < 4; p++) {
            int procedure = p;
            due.refused(room, "a 21st of " + p, Due.STATE, () -> room.amend(procedure));
        }
        due.refused(room, "a 21st of none", Due.INDEX, () -> room.amend(4));
        due.refused(room, "a 21st of none", Due.INDEX, () -> room.amend(NONE));
        Rooms.passTo(room, 120);
        due.refused(room, "a 21st when all are in force", Due.STATE, () -> room.amend(0));
        due.is("AMENDMENTS", room.many(3), 20);
        due.is("the last but three", room.chart(0, 84), 200);
        due.is("the last", room.chart(3, 84), 200);
    }

    private static void intoForce() {
        due.sentence("3, with the first DAY of the next CYCLE that begins 14 DAYS or more later than NOW");
        // NOW and the first DAY: just 14 DAYS ahead of a CYCLE, and 13.
        int[][] days = {{0, 28}, {14, 28}, {15, 56}, {27, 56}, {28, 56}, {42, 56}, {43, 84}, {350, 364}, {351, 392}, {378, 392}};
        for (int[] d : days) {
            MinimaRoom room = Rooms.empty();
            room.procedure(0, 20);
            Rooms.passTo(room, d[0]);
            due.is("amend() on " + d[0], room.amend(0), 200);
            due.is("the DAY ahead of " + d[1], room.chart(0, d[1] - 1), NONE);
            due.is("the DAY " + d[1], room.chart(0, d[1]), 200);
            due.is("the last DAY", room.chart(0, 399), 200);
        }
        due.sentence("8, or it would come into force behind the DAY 399");
        MinimaRoom late = Rooms.empty();
        late.procedure(0, 20);
        Rooms.passTo(late, 378);
        due.is("on 378", late.amend(0), 200);
        late.pass(1);
        due.refused(late, "on 379", Due.STATE, () -> late.amend(0));
        due.refused(late, "on 379, of none", Due.INDEX, () -> late.amend(1));
        Rooms.passTo(late, 399);
        due.refused(late, "on 399", Due.STATE, () -> late.amend(0));
        due.is("AMENDMENTS", late.many(3), 1);
    }

    private static int heightWith(int now, int from, int to) {
        MinimaRoom room = Rooms.empty();
        room.procedure(0, 20);
        room.obstacle(0, 0, 370, from, to);
        Rooms.passTo(room, now);
        return room.amend(0);
    }

    private static void heightOfItsCycle() {
        due.sentence("3, the greatest on any DAY of that CYCLE");
        due.is("the DAY ahead of it", heightWith(0, 0, 27), 200);
        due.is("its first DAY", heightWith(0, 0, 28), 400);
        due.is("its first DAY alone", heightWith(0, 28, 28), 400);
        due.is("its last DAY alone", heightWith(0, 55, 55), 400);
        due.is("its last DAY", heightWith(0, 55, NONE), 400);
        due.is("the DAY behind it", heightWith(0, 56, NONE), 200);
        due.sentence("3, up to the DAY 399");
        due.is("the DAY ahead of the last CYCLE", heightWith(378, 0, 391), 200);
        due.is("its first DAY", heightWith(378, 392, 392), 400);
        due.is("the DAY 399", heightWith(378, 399, NONE), 400);
        due.is("the last whole CYCLE: its last DAY", heightWith(350, 391, 391), 400);
        due.is("the last whole CYCLE: the DAY behind", heightWith(350, 392, 392), 200);
    }

    private static void asKnownAtNow() {
        due.sentence("3, by the OBSTACLES, the AID's KIND and the SLOPE as they are known at NOW");
        MinimaRoom room = Rooms.empty();
        room.procedure(0, 20);
        room.obstacle(0, 0, 370, 0, NONE);
        due.is("with the OBSTACLE", room.amend(0), 400);
        room.end(0);
        due.is("the CHART stays", room.chart(0, 28), 400);
        due.is("without it", room.amend(0), 200);
        room.aid(0, 1);
        due.is("the CHART stays", room.chart(0, 28), 200);
        due.is("as a LINE", room.amend(0), 250);
        room.obstacle(30, 0, 600, 28, 28);
        room.aid(0, 0);
        due.is("a SLOPE of 20 times 30", room.amend(0), 200);
        room.obstacle(30, 0, 601, 28, 28);
        due.is("above it", room.amend(0), 640);
    }

    private static void chart() {
        due.sentence("3, NONE without one");
        MinimaRoom room = Rooms.empty();
        room.procedure(0, 20);
        room.procedure(0, 20);
        for (int day : new int[] {0, 28, 399}) {
            due.is("CHART of " + day, room.chart(0, day), NONE);
        }
        due.sentence("3, the latest AMENDMENT that is in force on that DAY");
        room.amend(0);
        room.obstacle(0, 0, 370, 0, NONE);
        room.amend(0);
        due.is("27", room.chart(0, 27), NONE);
        due.is("28, of two the latest", room.chart(0, 28), 400);
        room.end(0);
        room.pass(15);
        room.amend(0);
        due.is("55", room.chart(0, 55), 400);
        due.is("56", room.chart(0, 56), 200);
        due.is("399", room.chart(0, 399), 200);
        due.is("another PROCEDURE has none", room.chart(1, 399), NONE);
    }

    private static void sixteenNotices() {
        due.sentence("4, at most 16 ever, numbered from 0");
        MinimaRoom room = Rooms.charted();
        for (int i = 0; i < 4; i++) {
            due.is("raise()", room.raise(0, 1 + i, 0, 0), 4 * i);
            due.is("out()", room.out(1, 0, 0), 4 * i + 1);
            due.is("close()", room.close(2, 0, 0), 4 * i + 2);
            due.is("cancel()", room.cancel(4 * i), 4 * i + 3);
            due.is("NOTICES", room.many(4), 4 * i + 4);
        }
        room.pass(1);
        due.refused(room, "a 17th raise()", Due.STATE, () -> room.raise(0, 1, 1, 1));
        due.refused(room, "a 17th out()", Due.STATE, () -> room.out(0, 1, 1));
        due.refused(room, "a 17th close()", Due.STATE, () -> room.close(0, 1, 1));
        due.refused(room, "a 17th cancel()", Due.STATE, () -> room.cancel(1));
        due.refused(room, "a 17th cancel() of a CANCEL", Due.STATE, () -> room.cancel(15));
        due.refused(room, "a 17th cancel() of none", Due.INDEX, () -> room.cancel(16));
        due.refused(room, "a 17th raise() that is wrong", Due.ARGUMENT, () -> room.raise(0, 501, 1, 1));
        due.refused(room, "a 17th raise() of none", Due.INDEX, () -> room.raise(3, 501, 1, 1));
        due.is("NOTICES", room.many(4), 16);
        due.sentence("4, another NOTICE that is no CANCEL");
        MinimaRoom some = Rooms.one();
        due.is("cancel()", some.cancel(0), 1);
        due.refused(some, "cancel() of a CANCEL", Due.STATE, () -> some.cancel(1));
        due.refused(some, "cancel() of one still to come", Due.INDEX, () -> some.cancel(2));
    }

    private static void countsFromTo() {
        due.sentence("4, one counts on a DAY, if it is FROM to TO");
        MinimaRoom room = Rooms.charted();
        room.raise(0, 7, 50, 52);
        room.out(1, 50, 52);
        room.close(2, 50, 52);
        int[][] want = {{200, 250, 300}, {207, NONE, NONE}, {207, NONE, NONE}, {207, NONE, NONE}, {200, 250, 300}};
        for (int i = 0; i < want.length; i++) {
            for (int p = 0; p < 3; p++) {
                due.is(p + " on " + (49 + i), room.inForce(p, 49 + i, 0), want[i][p]);
            }
        }
        Rooms.passTo(room, 49);
        int[] counting = {0, 3, 3, 3, 0};
        for (int i = 0; i < counting.length; i++) {
            due.is("many(5) on " + (49 + i), room.many(5), counting[i]);
            for (int n = 0; n < 3; n++) {
                due.is("ofNotice() on " + (49 + i), room.ofNotice(n, 5), counting[i] / 3);
            }
            room.pass(1);
        }
        room.raise(0, 7, 399, 399);
        Rooms.passTo(room, 398);
        due.is("many(5) on 398", room.many(5), 0);
        room.pass(1);
        due.is("many(5) on 399", room.many(5), 1);
    }

    private static void cancelledOnThatDay() {
        due.sentence("4, and none that CANCELS it was told on that DAY or ahead of it");
        MinimaRoom room = Rooms.charted();
        room.raise(0, 7, 40, 60);
        Rooms.passTo(room, 50);
        due.is("it counts", room.many(5), 1);
        room.cancel(0);
        due.is("it counts no more", room.many(5), 0);
        due.is("the CANCEL does", room.ofNotice(1, 5), 1);
        due.is("the DAY ahead", room.inForce(0, 49, 0), 207);
        due.is("the DAY on which it was told", room.inForce(0, 50, 0), 200);
        due.is("the DAY behind", room.inForce(0, 51, 0), 200);
        due.is("FROM of the CANCEL", room.ofNotice(1, 3), 50);
        due.is("TO of the CANCEL", room.ofNotice(1, 4), NONE);
        room.pass(2);
        due.is("CANCELLED again", room.cancel(0), 2);
        due.is("what was CANCELLED stays so", room.inForce(0, 51, 0), 200);
        MinimaRoom early = Rooms.charted();
        early.close(0, 40, 60);
        early.cancel(0);
        due.is("CANCELLED ahead of its FROM", early.inForce(0, 40, 0), 200);
        MinimaRoom late = Rooms.charted();
        late.close(0, 40, 60);
        Rooms.passTo(late, 61);
        late.cancel(0);
        due.is("CANCELLED behind its TO", late.inForce(0, 60, 0), NONE);
    }

    private static void inForceIsNone() {
        due.sentence("4, NONE, if there is no CHART");
        MinimaRoom room = Rooms.charted();
        due.is("the DAY ahead of the CHART", room.inForce(0, 27, 0), NONE);
        due.is("its first DAY", room.inForce(0, 28, 0), 200);
        due.sentence("4, its AID is not GOOD");
        due.is("the last DAY of its CHECK", room.inForce(0, 200, 0), 200);
        due.is("the DAY behind", room.inForce(0, 201, 0), NONE);
        due.sentence("4, or a NOTICE OUT of its AID or CLOSED of it counts");
        room.raise(0, 500, 100, 103);
        room.out(0, 100, 100);
        room.close(0, 102, 102);
        int[] want = {200, NONE, 700, NONE, 700, 200};
        for (int i = 0; i < want.length; i++) {
            due.is("on " + (99 + i), room.inForce(0, 99 + i, 0), want[i]);
            due.is("CATEGORY 3 on " + (99 + i), room.inForce(0, 99 + i, 3), want[i] == NONE ? NONE : want[i] + 30);
            due.is("another AID", room.inForce(1, 99 + i, 0), 250);
        }
        MinimaRoom shared = Rooms.full();
        shared.check(0, 100);
        due.is("two of an AID", shared.inForce(0, 40, 0), 200);
        due.is("two of an AID", shared.inForce(3, 40, 0), 200);
        due.is("a third of no AID that is GOOD", shared.inForce(1, 40, 0), NONE);
    }

    private static void greatestRaise() {
        due.sentence("4, the greatest RAISE of it that counts (not all of them)");
        MinimaRoom room = Rooms.charted();
        room.raise(0, 20, 40, 45);
        room.raise(0, 30, 42, 43);
        room.raise(0, 20, 43, 50);
        room.raise(0, 500, 50, 50);
        room.raise(1, 400, 40, 50);
        int[] want = {200, 220, 220, 230, 230, 220, 220, 220, 220, 220, 220, 700, 200};
        for (int i = 0; i < want.length; i++) {
            due.is("on " + (39 + i), room.inForce(0, 39 + i, 0), want[i]);
        }
        due.is("of another", room.inForce(1, 40, 0), 650);
    }

    private static void unsafe() {
        due.sentence("4, UNSAFE, if what is IN FORCE is not NONE, and below what is DEMANDED");
        MinimaRoom room = Rooms.charted();
        room.obstacle(0, 0, 170, 40, 49);
        due.is("just what is DEMANDED", room.unsafeOn(0), NONE);
        room.obstacle(0, 0, 200, 41, 49);
        due.is("30 below it", room.unsafeOn(0), 41);
        room.raise(0, 29, 41, 45);
        due.is("one below it", room.unsafeOn(0), 41);
        room.raise(0, 30, 41, 42);
        due.is("just it on two DAYS", room.unsafeOn(0), 43);
        room.raise(0, 31, 43, 43);
        due.is("one above it", room.unsafeOn(0), 44);
        room.close(0, 44, 48);
        due.is("NONE is not UNSAFE", room.unsafeOn(0), 49);
        room.check(0, 48);
        due.is("not GOOD is not UNSAFE", room.unsafeOn(0), NONE);
        MinimaRoom none = Rooms.empty();
        none.procedure(0, 20);
        none.check(0, 200);
        none.obstacle(0, 0, 999, 0, NONE);
        due.is("no CHART is not UNSAFE", none.unsafeOn(0), NONE);
        due.is("pass() over it", none.pass(60), 0);
    }

    private static void loaded() {
        due.sentence("5, LOADED charts on a DAY (NONE at first)");
        for (MinimaRoom room : new MinimaRoom[] {Rooms.empty(), Rooms.full()}) {
            for (int crew = 0; crew < 4; crew++) {
                due.is("many()", room.many(12 + crew), NONE);
                due.is("load()", room.load(crew), NONE);
                due.is("many()", room.many(12 + crew), 0);
                due.is("load() again", room.load(crew), 0);
            }
        }
        MinimaRoom room = Rooms.charted();
        due.sentence("5, with the CHART of the DAY on which it LOADED (NONE, if it has not)");
        room.load(0);
        Rooms.passTo(room, 27);
        room.load(1);
        room.pass(1);
        room.load(2);
        due.is("LOADED on 0", room.believes(0, 0, 28, 0), NONE);
        due.is("LOADED on 27", room.believes(1, 0, 28, 0), NONE);
        due.is("LOADED on 28", room.believes(2, 0, 28, 0), 200);
        due.is("not LOADED", room.believes(3, 0, 28, 0), NONE);
        Rooms.passTo(room, 399);
        due.is("LOADED on the last DAY", room.load(3), NONE);
        due.is("BELIEVED on the last DAY", room.believes(3, 0, 399, 3), 230);
    }

    private static void readBelowOne() {
        due.sentence("5, READ NOTICES: all with numbers below one (0 at first)");
        MinimaRoom empty = Rooms.empty();
        MinimaRoom full = Rooms.full();
        for (int crew = 0; crew < 4; crew++) {
            due.is("many() at first", full.many(16 + crew), 0);
            due.is("read() of none", empty.read(crew), 0);
            due.is("read() of all", full.read(crew), 16);
            due.is("read() again", full.read(crew), 0);
            due.is("many()", full.many(16 + crew), 16);
        }
        MinimaRoom room = Rooms.charted();
        Rooms.passTo(room, 28);
        room.load(0);
        room.raise(0, 10, 30, 40);
        room.read(0);
        room.raise(0, 20, 30, 40);
        due.is("the first alone", room.believes(0, 0, 30, 0), 210);
        due.is("how many are new", room.read(0), 1);
        due.is("the second too", room.believes(0, 0, 30, 0), 220);
        room.cancel(1);
        due.is("the CANCEL is not READ", room.believes(0, 0, 30, 0), 220);
        due.is("it is IN FORCE", room.inForce(0, 30, 0), 210);
        due.is("how many are new", room.read(0), 1);
        due.is("the CANCEL is READ", room.believes(0, 0, 30, 0), 210);
        room.cancel(1);
        due.is("CANCELLED once more, not READ", room.believes(0, 0, 30, 0), 210);
    }

    private static void believes() {
        due.sentence("5, BELIEVES on a DAY (NOW or later)");
        MinimaRoom room = Rooms.passTo(Rooms.charted(), 40);
        room.load(0);
        due.refused(room, "the DAY ahead of NOW", Due.ARGUMENT, () -> room.believes(0, 0, 39, 0));
        due.is("NOW", room.believes(0, 0, 40, 0), 200);
        due.is("the last DAY", room.believes(0, 0, 399, 0), 200);
        due.refused(room, "behind the last DAY", Due.ARGUMENT, () -> room.believes(0, 0, 400, 0));
        due.sentence("5, without looking whether the AID is GOOD");
        due.is("IN FORCE on 201", room.inForce(0, 201, 0), NONE);
        due.is("BELIEVED on 201", room.believes(0, 0, 201, 0), 200);
        due.sentence("22, or more than that");
        due.is("just that", room.misled(0), 0);
        room.raise(1, 1, 40, 40);
        due.is("one more", room.misled(0), 2);
        room.read(0);
        due.is("just that", room.misled(0), 0);
        room.cancel(0);
        due.is("one less", room.misled(0), 0);
        due.sentence("22, what is IN FORCE is NONE");
        Rooms.passTo(room, 200);
        due.is("the last DAY of the CHECK", room.misled(0), 0);
        room.pass(1);
        due.is("the DAY behind", room.misled(0), 7);
        due.is("one that has not LOADED", room.misled(1), 0);
    }

    private static void harmOnSomeDay() {
        due.sentence("6, on some DAY from its FROM to its TO");
        MinimaRoom room = Rooms.charted();
        room.close(0, 0, 99);
        room.close(0, 101, 399);
        due.is("the DAY ahead", room.permit(0, 0, 171, 0, 99), 0);
        due.is("TO", room.permit(0, 0, 171, 0, 100), 1);
        due.is("FROM and TO", room.permit(0, 0, 171, 100, 100), 1);
        due.is("FROM", room.permit(0, 0, 171, 100, NONE), 1);
        due.is("the DAY behind", room.permit(0, 0, 171, 101, NONE), 0);
        due.is("highest() ahead", room.highest(0, 0, 0, 99), 175);
        due.is("highest() to it", room.highest(0, 0, 0, 100), 170);
        due.is("highest() from it", room.highest(0, 0, 100, NONE), 170);
        due.is("highest() behind", room.highest(0, 0, 101, NONE), 175);
        due.sentence("6, but no earlier than NOW");
        Rooms.passTo(room, 100);
        due.is("NOW", room.permit(0, 0, 171, 0, 100), 1);
        due.is("highest() NOW", room.highest(0, 0, 0, 100), 170);
        due.is("gone", room.permit(0, 0, 999, 0, 99), 0);
        due.is("highest(), gone", room.highest(0, 0, 0, 99), 999);
        room.pass(1);
        due.is("gone", room.permit(0, 0, 171, 0, NONE), 0);
        due.is("highest(), gone", room.highest(0, 0, 0, NONE), 175);
        due.sentence("6, for good: to the DAY 399");
        Rooms.passTo(room, 250);
        room.check(2, 200);
        room.close(2, 250, 398);
        due.is("the DAY 398", room.permit(0, 0, 999, 250, 398), 0);
        due.is("for good", room.permit(0, 0, 999, 250, NONE), 4);
        due.is("highest() to 398", room.highest(0, 0, 250, 398), 999);
        due.is("highest() for good", room.highest(0, 0, 250, NONE), 210);
        Rooms.passTo(room, 399);
        due.is("on the last DAY", room.permit(0, 0, 211, 0, NONE), 4);
        due.is("on the last DAY", room.permit(0, 0, 210, 399, 399), 0);
    }

    private static void harmAlone() {
        due.sentence("6, it is UNSAFE with it, and not without it");
        MinimaRoom room = Rooms.charted();
        room.raise(0, 9, 0, 399);
        due.is("just what is DEMANDED", room.permit(0, 0, 170, 28, 28), 0);
        due.is("one below what is DEMANDED", room.permit(0, 0, 171, 28, 28), 1);
        room.raise(0, 10, 0, 399);
        due.is("just what is DEMANDED", room.permit(0, 0, 180, 28, 28), 2);
        due.is("below what is DEMANDED", room.permit(0, 0, 181, 28, 28), 3);
        room.obstacle(0, 0, 180, 30, 30);
        due.is("as much as is DEMANDED already", room.permit(0, 2, 210, 30, 30), 0);
        due.is("the LINE is UNSAFE already", room.permit(0, 2, 261, 30, 30), 1);
        due.is("the climb, just what is DEMANDED", room.permit(-1, 9, 205, 30, 30), 0);
        due.is("the climb, one above", room.permit(-1, 9, 206, 30, 30), 1);
        room.obstacle(-1, 0, 205, 30, 30);
        due.is("no more than one that is beyond already", room.permit(-2, 0, 230, 30, 30), 0);
        due.is("more than that one", room.permit(-2, 0, 231, 30, 30), 1);
        due.sentence("26, the greatest TOP with which it would do no HARM");
        due.is("without PROCEDURES", Rooms.empty().highest(0, 0, 0, NONE), 999);
        due.is("in a full room", Rooms.full().highest(0, 0, 0, NONE), 999);
        due.is("the least of all on 28", room.highest(0, 0, 28, 28), 175);
        due.is("the LINE is UNSAFE already", room.highest(0, 0, 30, 30), 180);
        due.is("the climb", room.highest(-1, 0, 30, 30), 205);
        due.is("the end of the climb", room.highest(-20, 0, 30, 30), 680);
        room.raise(0, 500, 40, 40);
        room.raise(1, 500, 40, 40);
        room.raise(2, 500, 40, 40);
        due.is("700 less 30", room.highest(0, 0, 40, 40), 670);
        due.is("the climb of 700", room.highest(-20, 0, 40, 40), 999);
    }
}
