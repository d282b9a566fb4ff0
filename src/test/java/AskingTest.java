/** Promises 15 to 24. */
public final class AskingTest {
    private static final int NONE = -1;
    private static final Due due = new Due();

    public static void main(String[] args) {
        ofObstacle();
        demandedInParts();
        demandedWithGlide();
        demandedInClimb();
        demandedRoundedAndRefused();
        decides();
        chart();
        inForce();
        ofNotice();
        believes();
        believesByWhatIsRead();
        misled();
        many();
        meanDemanded();
        due.end();
    }

    /** What is DEMANDED, with one PROCEDURE and one OBSTACLE alone. */
    private static int demandedBy(int kind, int slope, int x, int y, int top) {
        MinimaRoom room = new MinimaRoom();
        room.procedure(kind, slope);
        room.obstacle(x, y, top, 0, NONE);
        return room.demanded(0, 0, 0);
    }

    private static void ofObstacle() {
        due.promise(15);
        MinimaRoom room = new MinimaRoom();
        room.obstacle(-3, 4, 55, 6, 7);
        room.obstacle(13, -4, 155, 16, NONE);
        int[][] want = {{-3, 4, 55, 6, 7}, {13, -4, 155, 16, NONE}};
        for (int i = 0; i < 2; i++) {
            for (int what = 0; what < 5; what++) {
                due.is("ofObstacle(" + i + ", " + what + ")", room.ofObstacle(i, what), want[i][what]);
            }
        }
        due.refused(room, "ofObstacle(-1, 0)", Due.INDEX, () -> room.ofObstacle(-1, 0));
        due.refused(room, "ofObstacle(2, 5)", Due.INDEX, () -> room.ofObstacle(2, 5));
        due.refused(room, "ofObstacle(0, -1)", Due.ARGUMENT, () -> room.ofObstacle(0, -1));
        due.refused(room, "ofObstacle(0, 5)", Due.ARGUMENT, () -> room.ofObstacle(0, 5));
    }

    private static void demandedInParts() {
        due.promise(16);
        // KIND, X, Y, TOP and what is due. LINE has a MARGIN of 75, AREA of 90.
        int[][] want = {
            {1, 0, 0, 405, 480}, {1, 0, 1, 405, 480}, {1, 0, -1, 405, 480}, {1, 0, 2, 410, 410}, {1, 0, -2, 410, 410},
            {1, 0, 3, 999, 250}, {1, 9, 1, 405, 480}, {1, 9, 2, 410, 410}, {1, 10, 2, 405, 480},
            {1, 10, 3, 403, 440}, {1, 10, 3, 404, 450}, {1, 10, -4, 420, 420}, {1, 10, 5, 999, 250},
            {1, 29, 4, 505, 560}, {1, 29, 5, 505, 530}, {1, 60, 7, 405, 480}, {1, 60, 8, 406, 470}, {1, 60, 8, 407, 480},
            {1, 60, 9, 407, 460}, {1, 60, -9, 408, 470}, {1, 45, 9, 405, 420}, {1, 30, 9, 999, 250},
            {2, 0, 0, 400, 490}, {2, 0, 0, 401, 500}, {2, 20, 4, 400, 460}, {2, 20, 5, 400, 430}, {2, 20, 6, 400, 400},
            {2, 20, 7, 400, 300}, {2, 60, 8, 403, 480}, {2, 60, 8, 404, 490},
            {1, 0, 0, 175, 250}, {1, 0, 0, 176, 260}, {2, 0, 0, 210, 300}, {2, 0, 0, 211, 310}, {1, 0, 2, 250, 250},
            {1, 0, 2, 251, 260}, {1, 0, 0, 0, 250}, {2, 60, 9, 999, 1070},
        };
        for (int[] w : want) {
            due.is("demanded " + java.util.Arrays.toString(w), demandedBy(w[0], 40, w[1], w[2], w[3]), w[4]);
        }
        MinimaRoom room = new MinimaRoom();
        room.procedure(1, 20);
        room.obstacle(0, 0, 500, 10, 12);
        room.obstacle(0, 0, 400, 12, NONE);
        due.is("the DAY ahead", room.demanded(0, 9, 0), 250);
        due.is("the first DAY", room.demanded(0, 10, 0), 580);
        due.is("the last DAY, and the greatest", room.demanded(0, 12, 0), 580);
        due.is("the DAY behind", room.demanded(0, 13, 0), 480);
        due.is("for good", room.demanded(0, 399, 0), 480);
    }

    private static void demandedWithGlide() {
        due.promise(16);
        // SLOPE, X, Y, TOP and what is due. GLIDE has a MARGIN of 30.
        int[][] want = {
            {10, 40, 0, 400, 200}, {10, 40, 0, 401, 440}, {12, 40, 0, 480, 200}, {12, 40, 0, 481, 520},
            {40, 10, 0, 400, 200}, {40, 10, 0, 401, 440}, {40, 60, 0, 999, 200}, {10, 0, 0, 300, 330},
            {10, 0, 0, 0, 200}, {10, 0, 0, 171, 210}, {10, 0, 0, 170, 200},
            {10, 40, 6, 400, 200}, {10, 40, 6, 401, 430}, {10, 40, 10 - 1, 405, 420}, {10, 50, 9, 501, 520},
            {10, 60, 9, 601, 630}, {10, 60, 9, 600, 200}, {10, 40, -6, 403, 430},
        };
        for (int[] w : want) {
            due.is("demanded " + java.util.Arrays.toString(w), demandedBy(0, w[0], w[1], w[2], w[3]), w[4]);
        }
        due.is("a LINE looks at no SLOPE", demandedBy(1, 10, 40, 0, 400), 480);
        due.is("an AREA looks at no SLOPE", demandedBy(2, 10, 40, 0, 400), 490);
    }

    private static void demandedInClimb() {
        due.promise(16);
        // KIND, X, Y, TOP and what is due.
        int[][] want = {
            {0, -1, 0, 195, 200}, {0, -1, 0, 196, 210}, {0, -1, 9, 205, 210}, {0, -1, -9, 206, 220},
            {0, -20, 0, 670, 200}, {0, -20, 0, 671, 210}, {0, -20, 5, 999, 530}, {1, -1, 0, 245, 250},
            {1, -1, 0, 246, 260}, {2, -2, 0, 320, 300}, {2, -2, 9, 321, 310}, {0, -8, 0, 0, 200},
        };
        for (int[] w : want) {
            due.is("demanded " + java.util.Arrays.toString(w), demandedBy(w[0], 10, w[1], w[2], w[3]), w[4]);
        }
        MinimaRoom room = new MinimaRoom();
        room.procedure(0, 10);
        room.obstacle(0, 0, 371, 5, 9);
        room.obstacle(-4, 0, 480, 5, 7);
        room.obstacle(-2, 0, 450, 5, 6);
        // So far 401: at 4 beyond 471 (9 above), at 2 beyond 421 (29 above).
        due.is("the most above alone", room.demanded(0, 6, 0), 430);
        due.is("by the other one", room.demanded(0, 7, 0), 410);
        due.is("without a climb", room.demanded(0, 8, 0), 410);
        room.obstacle(-4, 0, 481, 7, 7);
        due.is("rounded up behind the climb", room.demanded(0, 7, 0), 420);
        due.is("none of them is there", room.demanded(0, 4, 0), 200);
    }

    private static void demandedRoundedAndRefused() {
        due.promise(16);
        due.is("stays", demandedBy(0, 10, 0, 0, 400), 430);
        due.is("one more", demandedBy(0, 10, 0, 0, 401), 440);
        due.is("nine more", demandedBy(0, 10, 0, 0, 409), 440);
        MinimaRoom room = new MinimaRoom();
        room.procedure(0, 10);
        room.obstacle(0, 0, 402, 0, NONE);
        for (int category = 0; category < 4; category++) {
            due.is("CATEGORY " + category, room.demanded(0, 0, category), 440 + 10 * category);
        }
        due.refused(room, "demanded(-1, 0, 0)", Due.INDEX, () -> room.demanded(-1, 0, 0));
        due.refused(room, "demanded(1, 400, 4)", Due.INDEX, () -> room.demanded(1, 400, 4));
        due.refused(room, "demanded(0, -1, 0)", Due.ARGUMENT, () -> room.demanded(0, -1, 0));
        due.refused(room, "demanded(0, 400, 0)", Due.ARGUMENT, () -> room.demanded(0, 400, 0));
        due.refused(room, "demanded(0, 0, -1)", Due.ARGUMENT, () -> room.demanded(0, 0, -1));
        due.refused(room, "demanded(0, 0, 4)", Due.ARGUMENT, () -> room.demanded(0, 0, 4));
        room.pass(30);
        due.is("a DAY that is gone", room.demanded(0, 0, 0), 440);
    }

    private static void decides() {
        due.promise(17);
        MinimaRoom room = new MinimaRoom();
        room.procedure(0, 10);
        due.is("none is there", room.decides(0, 0), NONE);
        room.obstacle(0, 0, 170, 0, NONE);
        due.is("no more than the BASE", room.decides(0, 0), NONE);
        room.obstacle(0, 0, 300, 0, NONE);
        due.is("the one above it", room.decides(0, 0), 1);
        room.obstacle(0, 0, 400, 10, 20);
        due.is("a DAY ahead", room.decides(0, 9), 1);
        due.is("its first DAY", room.decides(0, 10), 2);
        due.is("its last DAY", room.decides(0, 20), 2);
        due.is("a DAY behind", room.decides(0, 21), 1);
        room.obstacle(0, 0, 399, 20, 20);
        due.is("no less, as it is rounded up", room.decides(0, 20), NONE);
        room.obstacle(-1, 0, 426, 20, 20);
        due.is("one of the climb", room.decides(0, 20), 4);
        room.obstacle(-2, 9, 451, 20, 20);
        due.is("two of the climb that are alike", room.decides(0, 20), NONE);
        room.obstacle(0, 0, 300, 50, 50);
        due.is("two that are alike", room.decides(0, 50), NONE);
        due.refused(room, "decides(-1, 0)", Due.INDEX, () -> room.decides(-1, 0));
        due.refused(room, "decides(1, 400)", Due.INDEX, () -> room.decides(1, 400));
        due.refused(room, "decides(0, -1)", Due.ARGUMENT, () -> room.decides(0, -1));
        due.refused(room, "decides(0, 400)", Due.ARGUMENT, () -> room.decides(0, 400));
        MinimaRoom first = new MinimaRoom();
        first.procedure(1, 10);
        first.obstacle(0, 0, 400, 0, NONE);
        due.is("the only one", first.decides(0, 0), 0);
        first.obstacle(0, 0, 300, 0, NONE);
        due.is("the first of two", first.decides(0, 399), 0);
        MinimaRoom full = new MinimaRoom();
        full.procedure(1, 10);
        for (int i = 0; i < 12; i++) {
            full.obstacle(0, 0, i == 11 ? 900 : 200 + 10 * i, 0, NONE);
        }
        due.is("the last of twelve", full.decides(0, 0), 11);
    }

    private static void chart() {
        due.promise(18);
        MinimaRoom room = new MinimaRoom();
        room.procedure(0, 10);
        room.procedure(1, 10);
        due.is("none", room.chart(0, 399), NONE);
        room.amend(0);
        room.obstacle(0, 0, 400, 0, 200);
        room.amend(1);
        due.is("a DAY ahead", room.chart(0, 27), NONE);
        due.is("its first DAY", room.chart(0, 28), 200);
        due.is("of each its own", room.chart(1, 28), 480);
        room.amend(0);
        due.is("the latest of a DAY", room.chart(0, 28), 430);
        room.end(0);
        room.pass(20);
        room.amend(0);
        due.is("till the next", room.chart(0, 55), 430);
        due.is("the next", room.chart(0, 56), 200);
        due.is("from then on", room.chart(0, 399), 200);
        due.is("GOOD does not matter", room.chart(1, 300), 480);
        due.refused(room, "chart(-1, 0)", Due.INDEX, () -> room.chart(-1, 0));
        due.refused(room, "chart(2, 400)", Due.INDEX, () -> room.chart(2, 400));
        due.refused(room, "chart(0, -1)", Due.ARGUMENT, () -> room.chart(0, -1));
        due.refused(room, "chart(0, 400)", Due.ARGUMENT, () -> room.chart(0, 400));
    }

    private static void inForce() {
        due.promise(19);
        MinimaRoom room = new MinimaRoom();
        room.procedure(2, 10);
        room.procedure(1, 10);
        room.check(2, 40);
        room.amend(0);
        room.raise(0, 30, 28, 30);
        room.raise(0, 50, 29, 30);
        room.raise(0, 20, 29, 31);
        room.close(0, 35, 35);
        room.out(2, 36, 36);
        room.out(1, 37, 37);
        room.close(1, 37, 37);
        due.is("no CHART yet", room.inForce(0, 27, 0), NONE);
        due.is("no CHART", room.inForce(1, 20, 0), NONE);
        for (int category = 0; category < 4; category++) {
            due.is("28", room.inForce(0, 28, category), 330 + 10 * category);
            due.is("29", room.inForce(0, 29, category), 350 + 10 * category);
            due.is("31", room.inForce(0, 31, category), 320 + 10 * category);
            due.is("34", room.inForce(0, 34, category), 300 + 10 * category);
            due.is("closed", room.inForce(0, 35, category), NONE);
            due.is("out", room.inForce(0, 36, category), NONE);
            due.is("others are closed and out", room.inForce(0, 37, category), 300 + 10 * category);
            due.is("the last DAY of the CHECK", room.inForce(0, 40, category), 300 + 10 * category);
            due.is("a DAY behind the CHECK", room.inForce(0, 41, category), NONE);
        }
        due.refused(room, "inForce(-1, 0, 0)", Due.INDEX, () -> room.inForce(-1, 0, 0));
        due.refused(room, "inForce(2, 400, 4)", Due.INDEX, () -> room.inForce(2, 400, 4));
        due.refused(room, "inForce(0, -1, 0)", Due.ARGUMENT, () -> room.inForce(0, -1, 0));
        due.refused(room, "inForce(0, 400, 0)", Due.ARGUMENT, () -> room.inForce(0, 400, 0));
        due.refused(room, "inForce(0, 0, -1)", Due.ARGUMENT, () -> room.inForce(0, 0, -1));
        due.refused(room, "inForce(0, 0, 4)", Due.ARGUMENT, () -> room.inForce(0, 0, 4));
    }

    private static void ofNotice() {
        due.promise(20);
        MinimaRoom room = new MinimaRoom();
        room.procedure(2, 10);
        room.procedure(2, 10);
        room.pass(3);
        room.raise(1, 30, 4, 7);
        room.out(2, 3, 399);
        room.close(1, 3, 3);
        room.pass(1);
        room.cancel(1);
        room.close(0, 5, 9);
        int[][] want = {
            {0, 1, 30, 4, 7, 1}, {1, 2, 0, 3, 399, 0}, {2, 1, 0, 3, 3, 0}, {3, 1, 0, 4, NONE, 1}, {2, 0, 0, 5, 9, 0},
        };
        for (int i = 0; i < want.length; i++) {
            for (int what = 0; what < 6; what++) {
                due.is("ofNotice(" + i + ", " + what + ")", room.ofNotice(i, what), want[i][what]);
            }
        }
        room.pass(3);
        due.is("counts on its last DAY", room.ofNotice(0, 5), 1);
        room.pass(1);
        due.is("not behind it", room.ofNotice(0, 5), 0);
        due.is("a CANCEL always counts", room.ofNotice(3, 5), 1);
        due.is("counts", room.ofNotice(4, 5), 1);
        room.cancel(4);
        due.is("counts no more", room.ofNotice(4, 5), 0);
        due.refused(room, "ofNotice(-1, 0)", Due.INDEX, () -> room.ofNotice(-1, 0));
        due.refused(room, "ofNotice(6, 6)", Due.INDEX, () -> room.ofNotice(6, 6));
        due.refused(room, "ofNotice(0, -1)", Due.ARGUMENT, () -> room.ofNotice(0, -1));
        due.refused(room, "ofNotice(0, 6)", Due.ARGUMENT, () -> room.ofNotice(0, 6));
    }

    private static void believes() {
        due.promise(21);
        MinimaRoom room = new MinimaRoom();
        room.procedure(0, 10);
        room.amend(0);
        room.load(0);
        room.pass(28);
        due.is("it LOADED ahead of the CHART", room.believes(0, 0, 28, 0), NONE);
        due.is("it has not LOADED", room.believes(1, 0, 28, 0), NONE);
        room.load(1);
        for (int category = 0; category < 4; category++) {
            due.is("the CHART", room.believes(1, 0, 28, category), 200 + 10 * category);
        }
        due.is("the AID is not GOOD", room.inForce(0, 28, 0), NONE);
        room.obstacle(0, 0, 400, 0, NONE);
        room.amend(0);
        room.pass(30);
        due.is("still the CHART that it LOADED", room.believes(1, 0, 58, 0), 200);
        due.is("till the end", room.believes(1, 0, 399, 0), 200);
        room.load(1);
        due.is("the new one", room.believes(1, 0, 58, 0), 430);
        due.refused(room, "believes(-1)", Due.INDEX, () -> room.believes(-1, 0, 58, 0));
        due.refused(room, "believes(4)", Due.INDEX, () -> room.believes(4, 0, 400, 0));
        due.refused(room, "believes() of none", Due.INDEX, () -> room.believes(0, -1, 58, 0));
        due.refused(room, "believes() of none", Due.INDEX, () -> room.believes(0, 1, 57, 4));
        due.refused(room, "a DAY that is gone", Due.ARGUMENT, () -> room.believes(0, 0, 57, 0));
        due.refused(room, "the DAY 400", Due.ARGUMENT, () -> room.believes(0, 0, 400, 0));
        due.refused(room, "CATEGORY -1", Due.ARGUMENT, () -> room.believes(0, 0, 58, -1));
        due.refused(room, "CATEGORY 4", Due.ARGUMENT, () -> room.believes(0, 0, 58, 4));
    }

    private static void believesByWhatIsRead() {
        due.promise(21);
        MinimaRoom room = new MinimaRoom();
        room.procedure(0, 10);
        room.amend(0);
        room.pass(28);
        room.load(0);
        room.raise(0, 40, 30, 40);
        due.is("not READ", room.believes(0, 0, 30, 0), 200);
        room.read(0);
        due.is("READ", room.believes(0, 0, 30, 3), 270);
        due.is("a DAY without", room.believes(0, 0, 29, 0), 200);
        room.raise(0, 50, 30, 40);
        due.is("READ the first alone", room.believes(0, 0, 30, 0), 240);
        room.read(0);
        due.is("READ both", room.believes(0, 0, 30, 0), 250);
        room.cancel(1);
        due.is("the CANCEL is not READ", room.believes(0, 0, 30, 0), 250);
        room.read(0);
        due.is("the CANCEL is READ", room.believes(0, 0, 30, 0), 240);
        room.out(0, 31, 31);
        room.close(0, 32, 32);
        due.is("not READ", room.believes(0, 0, 31, 0), 240);
        room.read(0);
        due.is("OUT", room.believes(0, 0, 31, 0), NONE);
        due.is("CLOSED", room.believes(0, 0, 32, 0), NONE);
        due.is("neither", room.believes(0, 0, 33, 0), 240);
        room.cancel(3);
        room.cancel(3);
        due.is("the CANCELS are not READ", room.believes(0, 0, 31, 0), NONE);
        room.read(0);
        due.is("the CANCELS are READ", room.believes(0, 0, 31, 0), 240);
    }

    private static void misled() {
        due.promise(22);
        MinimaRoom room = new MinimaRoom();
        room.procedure(0, 10);
        room.procedure(1, 10);
        room.procedure(2, 10);
        for (int p = 0; p < 3; p++) {
            room.check(p, 200);
            room.amend(p);
        }
        room.pass(28);
        due.is("none LOADED", room.misled(0), 0);
        room.load(0);
        due.is("just what is IN FORCE", room.misled(0), 0);
        room.raise(1, 1, 28, 40);
        due.is("more is IN FORCE", room.misled(0), 2);
        due.is("another CREW", room.misled(1), 0);
        room.read(0);
        due.is("it knows", room.misled(0), 0);
        room.out(2, 28, 40);
        room.close(0, 29, 40);
        due.is("nothing is IN FORCE", room.misled(0), 4);
        room.pass(1);
        due.is("on NOW", room.misled(0), 5);
        room.cancel(0);
        due.is("less is IN FORCE", room.misled(0), 5);
        room.read(0);
        due.is("it BELIEVES NONE", room.misled(0), 0);
        room.cancel(1);
        room.cancel(2);
        due.is("it BELIEVES NONE, something is IN FORCE", room.misled(0), 0);
        room.read(0);
        room.check(1, 0);
        room.pass(1);
        due.is("the AID is not GOOD", room.misled(0), 2);
        due.refused(room, "misled(-1)", Due.INDEX, () -> room.misled(-1));
        due.refused(room, "misled(4)", Due.INDEX, () -> room.misled(4));
    }

    private static void many() {
        due.promise(23);
        MinimaRoom room = new MinimaRoom();
        room.procedure(0, 10);
        room.procedure(1, 10);
        room.procedure(1, 20);
        room.check(0, 28);
        room.check(1, 100);
        room.check(2, 27);
        for (int p = 0; p < 3; p++) {
            room.amend(p);
        }
        room.obstacle(0, 0, 400, 28, 28);
        room.obstacle(0, 0, 500, 29, 30);
        room.raise(1, 230, 28, 28);
        room.raise(0, 400, 27, 27);
        room.raise(0, 400, 29, 29);
        room.out(0, 29, 399);
        room.cancel(3);
        room.load(1);
        room.read(2);
        room.pass(27);
        room.load(2);
        room.pass(1);
        room.read(3);
        room.load(3);
        int[] want = {2, 28, 3, 3, 5, 1, 3, 5, 2, 28, 100, 27, NONE, 0, 27, 28, 0, 0, 5, 5};
        for (int what = 0; what < 20; what++) {
            due.is("many(" + what + ")", room.many(what), want[what]);
        }
        due.refused(room, "many(-1)", Due.ARGUMENT, () -> room.many(-1));
        due.refused(room, "many(20)", Due.ARGUMENT, () -> room.many(20));
        room.pass(1);
        due.is("AIDS that are GOOD", room.many(6), 2);
        due.is("UNSAFE", room.many(7), 6);
        due.is("the sum of pass()", room.many(8), 4);
        due.is("counting", room.many(5), 1);
    }

    private static void meanDemanded() {
        due.promise(24);
        MinimaRoom room = new MinimaRoom();
        due.isReal("without any", room.meanDemanded(399), 0.0);
        room.procedure(0, 40);
        due.isReal("of one", room.meanDemanded(0), 200.0);
        room.procedure(1, 40);
        due.isReal("of two", room.meanDemanded(0), 225.0);
        room.procedure(0, 10);
        due.isReal("of three", room.meanDemanded(0), 650 / 3.0);
        room.obstacle(20, 0, 300, 10, 10);
        due.isReal("of three", room.meanDemanded(10), (200 + 380 + 330) / 3.0);
        due.refused(room, "meanDemanded(-1)", Due.ARGUMENT, () -> (long) room.meanDemanded(-1));
        due.refused(room, "meanDemanded(400)", Due.ARGUMENT, () -> (long) room.meanDemanded(400));
    }
}
