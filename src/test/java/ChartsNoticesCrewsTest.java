/** Promises 8 to 14. */
public final class ChartsNoticesCrewsTest {
    private static final int NONE = -1;
    private static final Due due = new Due();

    public static void main(String[] args) {
        amendIntoForce();
        amendHeight();
        amendRefused();
        raise();
        out();
        close();
        cancel();
        noticesFull();
        load();
        read();
        due.end();
    }

    private static void passTo(MinimaRoom room, int day) {
        while (room.many(1) < day) {
            room.pass(Math.min(60, day - room.many(1)));
        }
    }

    /** The first DAY with a CHART, if the AMENDMENT is made on that DAY. */
    private static int firstDayOfAmendmentOn(int now) {
        MinimaRoom room = new MinimaRoom();
        room.procedure(1, 20);
        passTo(room, now);
        due.is("amend() on " + now, room.amend(0), 250);
        due.is("many(3)", room.many(3), 1);
        int day = 0;
        while (day < 399 && room.chart(0, day) == NONE) {
            day++;
        }
        return day;
    }

    private static void amendIntoForce() {
        due.promise(8);
        int[][] days = {{0, 28}, {13, 28}, {14, 28}, {15, 56}, {28, 56}, {42, 56}, {43, 84}, {377, 392}, {378, 392}};
        for (int[] d : days) {
            due.is("first DAY of the AMENDMENT of " + d[0], firstDayOfAmendmentOn(d[0]), d[1]);
        }
    }

    private static void amendHeight() {
        due.promise(8);
        MinimaRoom room = new MinimaRoom();
        room.procedure(0, 10);
        room.obstacle(0, 0, 900, 0, 27);
        room.obstacle(0, 0, 950, 56, NONE);
        due.is("neither ahead of the CYCLE nor behind", room.amend(0), 200);
        room.obstacle(0, 0, 500, 55, 55);
        due.is("its last DAY", room.amend(0), 530);
        room.obstacle(0, 0, 600, 20, 28);
        due.is("its first DAY", room.amend(0), 630);
        room.obstacle(0, 0, 605, 40, 41);
        due.is("the greatest", room.amend(0), 640);
        room.end(2);
        room.end(3);
        room.end(4);
        due.is("as known at NOW", room.chart(0, 28), 640);
        room.aid(0, 2);
        due.is("by the KIND at NOW", room.amend(0), 700);
        room.aid(0, 1);
        due.is("the CHART stays as it was made", room.chart(0, 28), 700);
        room.check(0, 0);
        due.is("GOOD does not matter", room.amend(0), 680);
        MinimaRoom late = new MinimaRoom();
        late.procedure(0, 10);
        late.obstacle(0, 0, 500, 399, 399);
        passTo(late, 378);
        due.is("up to the DAY 399", late.amend(0), 530);
    }

    private static void amendRefused() {
        due.promise(8);
        MinimaRoom room = new MinimaRoom();
        room.procedure(2, 10);
        room.procedure(1, 10);
        due.refused(room, "amend(-1)", Due.INDEX, () -> room.amend(-1));
        due.refused(room, "amend(2)", Due.INDEX, () -> room.amend(2));
        for (int i = 0; i < 20; i++) {
            due.is("amend()", room.amend(i % 2), i % 2 == 0 ? 300 : 250);
            due.is("many(3)", room.many(3), i + 1);
        }
        due.refused(room, "a 21st", Due.STATE, () -> room.amend(0));
        due.refused(room, "a 21st of none", Due.INDEX, () -> room.amend(2));
        MinimaRoom late = new MinimaRoom();
        late.procedure(2, 10);
        passTo(late, 379);
        due.refused(late, "amend() on 379", Due.STATE, () -> late.amend(0));
        passTo(late, 399);
        due.refused(late, "amend() on 399", Due.STATE, () -> late.amend(0));
        due.refused(late, "amend() of none on 399", Due.INDEX, () -> late.amend(1));
    }

    private static MinimaRoom charted() {
        MinimaRoom room = new MinimaRoom();
        room.procedure(0, 20);
        room.procedure(1, 20);
        room.check(0, 200);
        room.check(1, 200);
        room.amend(0);
        room.amend(1);
        room.pass(30);
        return room;
    }

    private static void raise() {
        due.promise(9);
        MinimaRoom room = charted();
        due.refused(room, "raise(-1)", Due.INDEX, () -> room.raise(-1, 0, 0, 0));
        due.refused(room, "raise(2)", Due.INDEX, () -> room.raise(2, 1, 30, 40));
        due.refused(room, "by 0", Due.ARGUMENT, () -> room.raise(0, 0, 30, 40));
        due.refused(room, "by 501", Due.ARGUMENT, () -> room.raise(0, 501, 30, 40));
        due.refused(room, "from 29", Due.ARGUMENT, () -> room.raise(0, 10, 29, 40));
        due.refused(room, "from 400", Due.ARGUMENT, () -> room.raise(0, 10, 400, 400));
        due.refused(room, "to ahead of from", Due.ARGUMENT, () -> room.raise(0, 10, 40, 39));
        due.refused(room, "to NONE", Due.ARGUMENT, () -> room.raise(0, 10, 40, NONE));
        due.refused(room, "to 400", Due.ARGUMENT, () -> room.raise(0, 10, 40, 400));
        due.is("raise()", room.raise(0, 1, 30, 30), 0);
        due.is("raise()", room.raise(0, 500, 399, 399), 1);
        due.is("raise()", room.raise(0, 45, 35, 40), 2);
        due.is("raise()", room.raise(0, 44, 36, 50), 3);
        due.is("in force", room.inForce(0, 29, 0), 200);
        due.is("in force", room.inForce(0, 30, 0), 201);
        due.is("in force", room.inForce(0, 31, 0), 200);
        due.is("in force", room.inForce(0, 34, 0), 200);
        due.is("in force", room.inForce(0, 35, 0), 245);
        due.is("the greatest, not the sum", room.inForce(0, 36, 2), 265);
        due.is("in force", room.inForce(0, 40, 0), 245);
        due.is("in force", room.inForce(0, 41, 0), 244);
        due.is("in force", room.inForce(0, 51, 0), 200);
        due.is("another one is not raised", room.inForce(1, 36, 0), 250);
    }

    private static void out() {
        due.promise(10);
        MinimaRoom room = charted();
        room.procedure(0, 30);
        due.refused(room, "out(-1)", Due.INDEX, () -> room.out(-1, 0, 0));
        due.refused(room, "out(3)", Due.INDEX, () -> room.out(3, 30, 30));
        due.refused(room, "from 29", Due.ARGUMENT, () -> room.out(0, 29, 40));
        due.refused(room, "from 400", Due.ARGUMENT, () -> room.out(0, 400, 400));
        due.refused(room, "to ahead of from", Due.ARGUMENT, () -> room.out(0, 40, 39));
        due.refused(room, "to 400", Due.ARGUMENT, () -> room.out(0, 40, 400));
        due.is("out()", room.out(2, 30, 399), 0);
        due.is("out()", room.out(1, 32, 33), 1);
        due.is("another AID", room.inForce(0, 32, 0), 200);
        due.is("a DAY ahead", room.inForce(1, 31, 0), 250);
        due.is("its first DAY", room.inForce(1, 32, 0), NONE);
        due.is("its last DAY", room.inForce(1, 33, 0), NONE);
        due.is("a DAY behind", room.inForce(1, 34, 0), 250);
        due.is("out()", room.out(0, 40, 40), 2);
        due.is("out", room.inForce(0, 40, 0), NONE);
    }

    private static void close() {
        due.promise(11);
        MinimaRoom room = charted();
        due.refused(room, "close(-1)", Due.INDEX, () -> room.close(-1, 0, 0));
        due.refused(room, "close(2)", Due.INDEX, () -> room.close(2, 30, 30));
        due.refused(room, "from 29", Due.ARGUMENT, () -> room.close(0, 29, 40));
        due.refused(room, "from 400", Due.ARGUMENT, () -> room.close(0, 400, 400));
        due.refused(room, "to ahead of from", Due.ARGUMENT, () -> room.close(0, 40, 39));
        due.refused(room, "to 400", Due.ARGUMENT, () -> room.close(0, 40, 400));
        due.is("close()", room.close(1, 32, 33), 0);
        due.is("another PROCEDURE", room.inForce(0, 32, 0), 200);
        due.is("a DAY ahead", room.inForce(1, 31, 0), 250);
        due.is("its first DAY", room.inForce(1, 32, 0), NONE);
        due.is("its last DAY", room.inForce(1, 33, 0), NONE);
        due.is("a DAY behind", room.inForce(1, 34, 0), 250);
        room.aid(1, 0);
        MinimaRoom other = new MinimaRoom();
        other.procedure(1, 20);
        other.procedure(1, 20);
        other.amend(0);
        other.amend(1);
        other.check(1, 200);
        other.close(0, 28, 30);
        due.is("closed by its number", other.inForce(0, 28, 0), NONE);
        due.is("not by its AID", other.inForce(1, 28, 0), 250);
    }

    private static void cancel() {
        due.promise(12);
        MinimaRoom room = charted();
        room.close(0, 30, 50);
        room.raise(1, 30, 30, 50);
        due.refused(room, "cancel(-1)", Due.INDEX, () -> room.cancel(-1));
        due.refused(room, "cancel(2)", Due.INDEX, () -> room.cancel(2));
        room.pass(5);
        due.is("cancel(0)", room.cancel(0), 2);
        due.is("the DAY ahead", room.inForce(0, 34, 0), NONE);
        due.is("the DAY on which it was told", room.inForce(0, 35, 0), 200);
        due.is("a DAY behind", room.inForce(0, 40, 0), 200);
        due.refused(room, "cancel() of a CANCEL", Due.STATE, () -> room.cancel(2));
        room.pass(5);
        due.is("cancel(0) again", room.cancel(0), 3);
        due.is("the first one stands", room.inForce(0, 35, 0), 200);
        due.is("cancel(1)", room.cancel(1), 4);
        due.is("raised yesterday", room.inForce(1, 39, 0), 280);
        due.is("not today", room.inForce(1, 40, 0), 250);
        due.is("many(4)", room.many(4), 5);
    }

    private static void noticesFull() {
        due.promise(12);
        MinimaRoom room = charted();
        for (int i = 0; i < 16; i++) {
            int number = i == 3 ? room.cancel(0) : room.raise(0, 1, 30, 30);
            due.is("a NOTICE", number, i);
        }
        due.refused(room, "raise()", Due.STATE, () -> room.raise(0, 1, 30, 30));
        due.refused(room, "a wrong raise()", Due.ARGUMENT, () -> room.raise(0, 0, 30, 30));
        due.refused(room, "raise() of none", Due.INDEX, () -> room.raise(2, 0, 30, 30));
        due.refused(room, "out()", Due.STATE, () -> room.out(0, 30, 30));
        due.refused(room, "a wrong out()", Due.ARGUMENT, () -> room.out(0, 29, 30));
        due.refused(room, "out() of none", Due.INDEX, () -> room.out(3, 30, 30));
        due.refused(room, "close()", Due.STATE, () -> room.close(0, 30, 30));
        due.refused(room, "a wrong close()", Due.ARGUMENT, () -> room.close(0, 30, 29));
        due.refused(room, "close() of none", Due.INDEX, () -> room.close(2, 30, 30));
        due.refused(room, "cancel()", Due.STATE, () -> room.cancel(0));
        due.refused(room, "cancel() of a CANCEL", Due.STATE, () -> room.cancel(3));
        due.refused(room, "cancel() of none", Due.INDEX, () -> room.cancel(16));
        due.is("many(4)", room.many(4), 16);
    }

    private static void load() {
        due.promise(13);
        MinimaRoom room = charted();
        due.refused(room, "load(-1)", Due.INDEX, () -> room.load(-1));
        due.refused(room, "load(4)", Due.INDEX, () -> room.load(4));
        for (int crew = 0; crew < 4; crew++) {
            due.is("load() the first time", room.load(crew), NONE);
            due.is("many()", room.many(12 + crew), 30 + crew);
            room.pass(1);
        }
        for (int crew = 0; crew < 4; crew++) {
            due.is("load() again", room.load(crew), 30 + crew);
            due.is("many()", room.many(12 + crew), 34);
        }
        due.is("load() twice on a DAY", room.load(2), 34);
    }

    private static void read() {
        due.promise(14);
        MinimaRoom room = charted();
        due.refused(room, "read(-1)", Due.INDEX, () -> room.read(-1));
        due.refused(room, "read(4)", Due.INDEX, () -> room.read(4));
        due.is("read(0) of none", room.read(0), 0);
        room.raise(0, 1, 40, 41);
        room.out(2, 40, 41);
        room.close(1, 40, 41);
        due.is("read(0)", room.read(0), 3);
        due.is("read(0) again", room.read(0), 0);
        room.cancel(1);
        due.is("read(0) of a CANCEL", room.read(0), 1);
        due.is("read(3) of all", room.read(3), 4);
        due.is("many(16)", room.many(16), 4);
        due.is("many(17)", room.many(17), 0);
        due.is("many(18)", room.many(18), 0);
        due.is("many(19)", room.many(19), 4);
    }
}
