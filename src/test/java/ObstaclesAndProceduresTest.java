/** Promises 1 to 7. */
public final class ObstaclesAndProceduresTest {
    private static final int NONE = -1;
    private static final Due due = new Due();

    public static void main(String[] args) {
        newObject();
        obstacle();
        end();
        endAheadOfFrom();
        aid();
        check();
        procedure();
        pass();
        passEdges();
        due.end();
    }

    private static void newObject() {
        due.promise(1);
        MinimaRoom room = new MinimaRoom();
        int[] many = {0, 0, 0, 0, 0, 0, 7, 0, 0, 27, 27, 27, NONE, NONE, NONE, NONE, 0, 0, 0, 0};
        for (int what = 0; what < many.length; what++) {
            due.is("many(" + what + ")", room.many(what), many[what]);
        }
        due.isReal("meanDemanded(0)", room.meanDemanded(0), 0.0);
        due.refused(room, "ofObstacle(0, 0)", Due.INDEX, () -> room.ofObstacle(0, 0));
        due.refused(room, "chart(0, 0)", Due.INDEX, () -> room.chart(0, 0));
        due.refused(room, "ofNotice(0, 0)", Due.INDEX, () -> room.ofNotice(0, 0));
        due.is("permit", room.permit(0, 0, 999, 0, NONE), 0);
        due.is("highest", room.highest(0, 0, 0, NONE), 999);
        for (int aid = 0; aid < 3; aid++) {
            due.is("aid(" + aid + ") is of its number", room.aid(aid, 0), aid);
        }
    }

    private static void obstacle() {
        due.promise(2);
        MinimaRoom room = new MinimaRoom();
        room.procedure(0, 20);
        int[][] wrong = {
            {-21, 0, 100, 0, NONE}, {61, 0, 100, 0, NONE}, {Integer.MIN_VALUE, 0, 100, 0, NONE},
            {0, -10, 100, 0, NONE}, {0, 10, 100, 0, NONE}, {0, Integer.MIN_VALUE, 100, 0, NONE},
            {0, 0, -1, 0, NONE}, {0, 0, 1000, 0, NONE}, {0, 0, 100, -1, NONE}, {0, 0, 100, 400, NONE},
            {0, 0, 100, 400, 400}, {0, 0, 100, 0, -2}, {0, 0, 100, 5, 4}, {0, 0, 100, 5, 400},
            {0, 0, 100, 0, Integer.MAX_VALUE},
        };
        int[][] right = {
            {-20, -9, 0, 0, 0}, {60, 9, 999, 399, 399}, {0, 0, 1, 399, NONE}, {1, 1, 1, 0, 399}, {2, 2, 2, 7, 7},
        };
        for (int number = 0; number < 12; number++) {
            // Not each time: an object is promised for 512 calls.
            for (int i = number % 3; i < wrong.length; i += 3) {
                int[] o = wrong[i];
                due.refused(room, "obstacle" + java.util.Arrays.toString(o), Due.ARGUMENT,
                        () -> room.obstacle(o[0], o[1], o[2], o[3], o[4]));
            }
            int[] o = right[number % right.length];
            due.is("obstacle", room.obstacle(o[0], o[1], o[2], o[3], o[4]), number);
            due.is("many(0)", room.many(0), number + 1);
            for (int what = 0; what < 5; what++) {
                due.is("ofObstacle(" + number + ", " + what + ")", room.ofObstacle(number, what), o[what]);
            }
        }
        due.refused(room, "a 13th", Due.STATE, () -> room.obstacle(0, 0, 0, 0, NONE));
        due.refused(room, "a wrong 13th", Due.ARGUMENT, () -> room.obstacle(61, 0, 0, 0, NONE));
        room.pass(60);
        MinimaRoom later = new MinimaRoom();
        later.pass(60);
        due.is("one of the past may be told", later.obstacle(0, 0, 0, 3, 4), 0);
    }

    private static void end() {
        due.promise(3);
        MinimaRoom room = new MinimaRoom();
        room.procedure(0, 20);
        room.obstacle(0, 0, 400, 0, NONE);
        room.obstacle(0, 0, 500, 0, 20);
        room.obstacle(0, 0, 600, 0, 9);
        room.obstacle(0, 0, 700, 0, 10);
        room.obstacle(0, 0, 800, 0, 11);
        room.pass(10);
        due.refused(room, "end(-1)", Due.INDEX, () -> room.end(-1));
        due.refused(room, "end(5)", Due.INDEX, () -> room.end(5));
        due.refused(room, "end() of one that went yesterday", Due.STATE, () -> room.end(2));
        due.refused(room, "end() of one that goes today", Due.STATE, () -> room.end(3));
        due.is("end() of one that goes tomorrow", room.end(4), 11);
        due.is("end()", room.end(1), 20);
        due.is("end() for good", room.end(0), NONE);
        for (int i : new int[] {0, 1, 4}) {
            due.is("TO of " + i, room.ofObstacle(i, 4), 10);
            due.refused(room, "end() again", Due.STATE, () -> room.end(i));
        }
        due.is("demanded today", room.demanded(0, 10, 0), 830);
        due.is("demanded tomorrow", room.demanded(0, 11, 0), 200);
    }

    private static void endAheadOfFrom() {
        due.promise(3);
        MinimaRoom room = new MinimaRoom();
        room.procedure(0, 20);
        room.obstacle(0, 0, 400, 30, NONE);
        room.obstacle(0, 0, 500, 30, 35);
        room.obstacle(0, 0, 600, 5, 35);
        room.pass(5);
        due.is("end() ahead of FROM", room.end(0), NONE);
        due.is("TO is FROM", room.ofObstacle(0, 4), 30);
        due.is("end() ahead of FROM", room.end(1), 35);
        due.is("TO is FROM", room.ofObstacle(1, 4), 30);
        due.is("end() once more, as it is still to come", room.end(1), 30);
        due.is("TO is FROM", room.ofObstacle(1, 4), 30);
        due.is("end() on FROM", room.end(2), 35);
        due.is("TO is NOW", room.ofObstacle(2, 4), 5);
        due.is("demanded(30)", room.demanded(0, 30, 0), 530);
        due.is("demanded(31)", room.demanded(0, 31, 0), 200);
    }

    private static void aid() {
        due.promise(4);
        MinimaRoom room = new MinimaRoom();
        room.procedure(1, 20);
        int[] wrongAids = {-1, 3, Integer.MIN_VALUE, Integer.MAX_VALUE};
        for (int aid : wrongAids) {
            due.refused(room, "aid(" + aid + ", 0)", Due.INDEX, () -> room.aid(aid, 0));
            due.refused(room, "aid(" + aid + ", 3)", Due.INDEX, () -> room.aid(aid, 3));
        }
        due.refused(room, "aid(0, -1)", Due.ARGUMENT, () -> room.aid(0, -1));
        due.refused(room, "aid(0, 3)", Due.ARGUMENT, () -> room.aid(0, 3));
        due.is("demanded by a LINE", room.demanded(0, 0, 0), 250);
        due.is("aid(1, 2)", room.aid(1, 2), 1);
        due.is("demanded by an AREA", room.demanded(0, 0, 0), 300);
        due.is("aid(1, 0)", room.aid(1, 0), 2);
        due.is("demanded by a GLIDE", room.demanded(0, 0, 0), 200);
        due.is("aid(1, 0)", room.aid(1, 0), 0);
        due.is("aid(0, 2)", room.aid(0, 2), 0);
        due.is("aid(2, 1)", room.aid(2, 1), 2);
        due.is("demanded still by a GLIDE", room.demanded(0, 0, 0), 200);
    }

    private static void check() {
        due.promise(5);
        MinimaRoom room = new MinimaRoom();
        due.refused(room, "check(-1, 0)", Due.INDEX, () -> room.check(-1, 0));
        due.refused(room, "check(3, 201)", Due.INDEX, () -> room.check(3, 201));
        due.refused(room, "check(0, -1)", Due.ARGUMENT, () -> room.check(0, -1));
        due.refused(room, "check(0, 201)", Due.ARGUMENT, () -> room.check(0, 201));
        due.refused(room, "check(0, most)", Due.ARGUMENT, () -> room.check(0, Integer.MAX_VALUE));
        due.is("check(0, 200)", room.check(0, 200), 200);
        due.is("check(0, 0) makes it less", room.check(0, 0), 0);
        due.is("many(9)", room.many(9), 0);
        due.is("many(10)", room.many(10), 27);
        due.is("many(11)", room.many(11), 27);
        due.is("GOOD up to the CHECK", room.many(6), 7);
        room.pass(1);
        due.is("not GOOD behind it", room.many(6), 6);
        room.pass(60);
        room.pass(60);
        room.pass(60);
        room.pass(18);
        due.is("check(1, 200) on 199", room.check(1, 200), 399);
        room.pass(1);
        due.is("check(2, 200) on 200 is 399 at most", room.check(2, 200), 399);
        due.is("check(2, 198) on 200", room.check(2, 198), 398);
        due.is("many(10)", room.many(10), 399);
        due.is("many(11)", room.many(11), 398);
        due.is("GOOD", room.many(6), 6);
    }

    private static void procedure() {
        due.promise(6);
        MinimaRoom room = new MinimaRoom();
        int[] aids = {2, 0, 1, 2};
        int[] slopes = {10, 40, 11, 39};
        for (int number = 0; number < 4; number++) {
            due.refused(room, "procedure(-1, 20)", Due.INDEX, () -> room.procedure(-1, 20));
            due.refused(room, "procedure(3, 9)", Due.INDEX, () -> room.procedure(3, 9));
            due.refused(room, "procedure(0, 9)", Due.ARGUMENT, () -> room.procedure(0, 9));
            due.refused(room, "procedure(0, 41)", Due.ARGUMENT, () -> room.procedure(0, 41));
            due.is("procedure()", room.procedure(aids[number], slopes[number]), number);
            due.is("many(2)", room.many(2), number + 1);
            due.is("its BASE", room.demanded(number, 0, 0), 200 + 50 * aids[number]);
        }
        due.refused(room, "a fifth", Due.STATE, () -> room.procedure(0, 20));
        due.refused(room, "a fifth with a wrong aid", Due.INDEX, () -> room.procedure(3, 20));
        due.refused(room, "a fifth with a wrong slope", Due.ARGUMENT, () -> room.procedure(0, 41));
    }

    private static void pass() {
        due.promise(7);
        MinimaRoom room = new MinimaRoom();
        room.procedure(0, 10);
        room.procedure(0, 20);
        room.check(0, 200);
        room.obstacle(0, 0, 400, 30, 40);
        due.is("amend(0)", room.amend(0), 430);
        room.end(0);
        room.obstacle(0, 0, 500, 30, 34);
        due.is("amend(1)", room.amend(1), 530);
        due.is("pass(28), no chart till then", room.pass(28), 0);
        due.is("pass(1) to a DAY with nothing", room.pass(1), 0);
        due.is("pass(1) to the first UNSAFE DAY", room.pass(1), 1);
        due.is("many(8)", room.many(8), 1);
        room.obstacle(0, 0, 600, 31, 32);
        due.is("pass(2): both are UNSAFE on both", room.pass(2), 4);
        due.is("many(7)", room.many(7), 3);
        due.is("many(8)", room.many(8), 5);
        due.is("pass(60): the one on two more", room.pass(60), 2);
        due.is("many(8)", room.many(8), 7);
        due.is("many(1)", room.many(1), 92);
    }

    private static void passEdges() {
        due.promise(7);
        MinimaRoom room = new MinimaRoom();
        due.refused(room, "pass(0)", Due.ARGUMENT, () -> room.pass(0));
        due.refused(room, "pass(-1)", Due.ARGUMENT, () -> room.pass(-1));
        due.refused(room, "pass(61)", Due.ARGUMENT, () -> room.pass(61));
        due.refused(room, "pass(most)", Due.ARGUMENT, () -> room.pass(Integer.MAX_VALUE));
        for (int i = 0; i < 6; i++) {
            due.is("pass(60)", room.pass(60), 0);
        }
        due.refused(room, "pass(40) on 360", Due.STATE, () -> room.pass(40));
        due.is("pass(39) on 360", room.pass(39), 0);
        due.is("many(1)", room.many(1), 399);
        due.refused(room, "pass(1) on 399", Due.STATE, () -> room.pass(1));
        due.refused(room, "pass(61) on 399", Due.ARGUMENT, () -> room.pass(61));
    }
}
