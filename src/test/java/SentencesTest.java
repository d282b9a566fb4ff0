/** The sentences of the sections 1 to 6 that name a boundary, one by one, at that boundary and one behind it. */
public final class SentencesTest {
    private static final int NONE = -1;
    private static final Due due = new Due();

    public static void main(String[] args) {
        days();
        obstaclesThere();
        twelveObstacles();
        aidsAtFirst();
        good();
        fourProcedures();
        insideAndSecondPart();
        whatIsNeeded();
        aboveTheGlide();
        beyondTheRunway();
        climb();
        roundedUp();
        greatestDemanded();
        due.end();
    }

    private static int demandedBy(int kind, int slope, int x, int y, int top) {
        MinimaRoom room = new MinimaRoom();
        room.procedure(kind, slope);
        room.obstacle(x, y, top, 0, NONE);
        return room.demanded(0, 0, 0);
    }

    private static void days() {
        due.sentence("1, NOW is 0 at first");
        MinimaRoom room = Rooms.empty();
        due.is("NOW", room.many(1), 0);
        due.sentence("1, DAYS are 0 to 399");
        room.procedure(1, 20);
        room.obstacle(0, 0, 300, 0, 0);
        room.obstacle(0, 0, 400, 399, 399);
        due.is("the DAY 0", room.demanded(0, 0, 0), 380);
        due.is("the DAY 1", room.demanded(0, 1, 0), 250);
        due.is("the DAY 398", room.demanded(0, 398, 0), 250);
        due.is("the DAY 399", room.demanded(0, 399, 0), 480);
        due.refused(room, "the DAY 400", Due.ARGUMENT, () -> room.demanded(0, 400, 0));
        due.refused(room, "the DAY -1", Due.ARGUMENT, () -> room.demanded(0, -1, 0));
        Rooms.passTo(room, 399);
        due.is("NOW at last", room.many(1), 399);
        due.refused(room, "a DAY more", Due.STATE, () -> room.pass(1));
    }

    private static void obstaclesThere() {
        due.sentence("1, it is there on both and between");
        MinimaRoom room = Rooms.empty();
        room.procedure(1, 20);
        room.obstacle(0, 0, 425, 100, 103);
        int[] demanded = {250, 500, 500, 500, 500, 250};
        for (int i = 0; i < demanded.length; i++) {
            due.is("the DAY " + (99 + i), room.demanded(0, 99 + i, 0), demanded[i]);
        }
        due.sentence("1, FROM and TO of one DAY");
        room.obstacle(0, 0, 525, 200, 200);
        due.is("the DAY ahead", room.demanded(0, 199, 0), 250);
        due.is("the DAY", room.demanded(0, 200, 0), 600);
        due.is("the DAY behind", room.demanded(0, 201, 0), 250);
        due.sentence("1, TO NONE: for good");
        room.obstacle(0, 0, 625, 300, NONE);
        due.is("TO", room.ofObstacle(2, 4), NONE);
        due.is("the DAY ahead", room.demanded(0, 299, 0), 250);
        due.is("the first", room.demanded(0, 300, 0), 700);
        due.is("the last", room.demanded(0, 399, 0), 700);
    }

    private static void twelveObstacles() {
        due.sentence("1, at most 12, numbered from 0");
        MinimaRoom room = Rooms.empty();
        room.procedure(1, 20);
        for (int i = 0; i < 12; i++) {
            due.is("its number", room.obstacle(0, 0, 200 + 10 * i, 5, 9), i);
            due.is("OBSTACLES", room.many(0), i + 1);
        }
        due.is("the twelfth counts", room.demanded(0, 9, 0), 390);
        due.refused(room, "a thirteenth", Due.STATE, () -> room.obstacle(0, 0, 999, 0, NONE));
        due.refused(room, "a thirteenth that is wrong", Due.ARGUMENT, () -> room.obstacle(0, 0, 1000, 0, NONE));
        room.end(0);
        Rooms.passTo(room, 10);
        due.refused(room, "a thirteenth when all are gone", Due.STATE, () -> room.obstacle(0, 0, 999, 0, NONE));
        due.is("OBSTACLES", room.many(0), 12);
        due.is("the twelfth stays as it was", room.ofObstacle(11, 2), 310);
    }

    private static void aidsAtFirst() {
        due.sentence("2, all three are of the KIND of their number at first");
        MinimaRoom room = Rooms.empty();
        for (int aid = 0; aid < 3; aid++) {
            due.is("aid(" + aid + ", 2)", room.aid(aid, 2), aid);
            due.is("aid(" + aid + ", 0)", room.aid(aid, 0), 2);
        }
        due.sentence("2, a CHECK: 27 at first");
        for (int aid = 0; aid < 3; aid++) {
            due.is("its CHECK", room.many(9 + aid), 27);
        }
    }

    private static void good() {
        due.sentence("2, GOOD on a DAY up to its CHECK");
        MinimaRoom room = Rooms.passTo(Rooms.empty(), 27);
        due.is("on the DAY 27", room.many(6), 7);
        room.pass(1);
        due.is("on the DAY 28", room.many(6), 0);
        room.check(1, 0);
        due.is("checked today for today", room.many(6), 2);
        room.check(2, 1);
        room.pass(1);
        due.is("the DAY behind", room.many(6), 4);
        MinimaRoom charted = Rooms.one();
        due.is("the first CHART is behind the first CHECK", charted.inForce(0, 28, 0), NONE);
        charted.check(0, 28);
        due.is("the last DAY of the CHECK", charted.inForce(0, 28, 0), 200);
        due.is("the DAY behind", charted.inForce(0, 29, 0), NONE);
        Rooms.passTo(charted, 200);
        due.is("CHECK", charted.check(0, 199), 399);
        due.is("the last DAY", charted.inForce(0, 399, 0), 201);
        charted.check(0, 198);
        due.is("the last DAY but one", charted.inForce(0, 398, 0), 200);
        due.is("the last DAY", charted.inForce(0, 399, 0), NONE);
        due.sentence("5, 399 at most");
        due.is("CHECK", charted.check(0, 200), 399);
        due.is("many(9)", charted.many(9), 399);
        Rooms.passTo(charted, 399);
        due.is("CHECK on the last DAY", charted.check(0, 0), 399);
        due.is("CHECK on the last DAY", charted.check(0, 200), 399);
    }

    private static void fourProcedures() {
        due.sentence("2, at most 4, numbered from 0");
        MinimaRoom room = Rooms.empty();
        for (int p = 0; p < 4; p++) {
            due.is("its number", room.procedure(2, 10 + 10 * p), p);
            due.is("PROCEDURES", room.many(2), p + 1);
        }
        due.refused(room, "a fifth", Due.STATE, () -> room.procedure(0, 20));
        due.refused(room, "a fifth that is wrong", Due.ARGUMENT, () -> room.procedure(0, 9));
        due.refused(room, "a fifth of no AID", Due.INDEX, () -> room.procedure(3, 9));
        due.is("PROCEDURES", room.many(2), 4);
        due.sentence("2, by the KIND of its AID it has a MARGIN (30, 75, 90), and a BASE (200, 250, 300)");
        int[] base = {200, 250, 300};
        int[] margin = {30, 75, 90};
        room.aid(2, 0);
        room.obstacle(0, 0, 305, 1, NONE);
        for (int kind = 0; kind < 3; kind++) {
            room.aid(2, kind);
            for (int p = 0; p < 4; p++) {
                due.is("the BASE of " + p, room.demanded(p, 0, 0), base[kind]);
                due.is("the MARGIN of " + p, room.demanded(p, 1, 0), (305 + margin[kind] + 9) / 10 * 10);
            }
        }
    }

    /** An AREA, whose MARGIN of 90 shows where a part ends: X, the INNER width. */
    private static void insideAndSecondPart() {
        int[][] inner = {{0, 1}, {9, 1}, {10, 2}, {19, 2}, {20, 3}, {29, 3}, {30, 4}, {39, 4}, {40, 5}, {59, 6}, {60, 7}};
        for (int[] w : inner) {
            int x = w[0];
            for (int side = -1; side <= 1; side += 2) {
                due.sentence("2, INSIDE: no more than 1 and X / 10, together");
                due.is("on the line at " + x, demandedBy(2, 20, x, 0, 510), 600);
                due.is("the last INSIDE at " + x, demandedBy(2, 20, x, side * w[1], 510), 600);
                due.is("the first in the SECOND part at " + x, demandedBy(2, 20, x, side * (w[1] + 1), 510),
                        (510 + 90 * (w[1] - 1) / w[1] + 9) / 10 * 10);
                due.sentence("2, in the SECOND part: no more than twice that");
                if (2 * w[1] <= 9) {
                    due.is("its outer edge at " + x, demandedBy(2, 20, x, side * 2 * w[1], 510), 510);
                }
                due.sentence("2, elsewhere nothing");
                if (2 * w[1] + 1 <= 9) {
                    due.is("one farther at " + x, demandedBy(2, 20, x, side * (2 * w[1] + 1), 999), 300);
                }
            }
        }
    }

    private static void whatIsNeeded() {
        due.sentence("2, the MARGIN times what is left to the outer edge divided by INNER");
        // KIND, X, Y, the NEED above the TOP; X 60 has an INNER width of 7, X 20 one of 3.
        int[][] needs = {
            {0, 60, 8, 25}, {0, 60, 9, 21}, {1, 60, 8, 64}, {1, 60, 9, 53}, {2, 60, 8, 77}, {2, 60, 9, 64},
            {0, 20, 4, 20}, {0, 20, 5, 10}, {1, 20, 4, 50}, {1, 20, 5, 25}, {2, 20, 4, 60}, {2, 20, 5, 30},
            {0, 10, 3, 15}, {1, 10, 3, 37}, {2, 10, 3, 45}, {0, 30, 7, 7}, {1, 30, 5, 56}, {1, 30, 7, 18}, {2, 30, 7, 22},
        };
        for (int[] n : needs) {
            // TOPS that make the NEED 800 and 801.
            int top = 800 - n[3];
            String place = java.util.Arrays.toString(n);
            due.is("up to a ten " + place, demandedBy(n[0], 10, n[1], n[2], top), 800);
            due.is("one above it " + place, demandedBy(n[0], 10, n[1], -n[2], top + 1), 810);
        }
        due.sentence("2, the greatest of the BASE and all NEEDS");
        due.is("as the BASE", demandedBy(2, 10, 0, 0, 210), 300);
        due.is("above the BASE", demandedBy(2, 10, 0, 0, 211), 310);
        due.is("a TOP of 0", demandedBy(2, 10, 0, 0, 0), 300);
        MinimaRoom room = Rooms.empty();
        room.procedure(2, 10);
        room.obstacle(0, 0, 400, 0, NONE);
        room.obstacle(0, 2, 490, 0, NONE);
        due.is("two that NEED the same", room.demanded(0, 0, 0), 490);
        room.obstacle(0, 2, 491, 0, NONE);
        due.is("one that NEEDS more", room.demanded(0, 0, 0), 500);
    }

    private static void aboveTheGlide() {
        due.sentence("2, with a GLIDE it counts only, if its TOP is above X times SLOPE (in any part)");
        // SLOPE, X, Y and what the first that counts NEEDS above its TOP.
        int[][] places = {{10, 40, 0, 30}, {40, 10, 2, 30}, {16, 20, 4, 20}, {16, 20, 6, 0}, {16, 60, 9, 21}, {40, 24, 0, 30}};
        for (int[] w : places) {
            int line = w[0] * w[1];
            String place = java.util.Arrays.toString(w);
            due.is("as high as the line " + place, demandedBy(0, w[0], w[1], w[2], line), 200);
            due.is("above it " + place, demandedBy(0, w[0], w[1], w[2], line + 1), (line + 1 + w[3] + 9) / 10 * 10);
        }
        due.is("the line is above all TOPS", demandedBy(0, 17, 60, 0, 999), 200);
        due.is("the line is just below the greatest TOP", demandedBy(0, 27, 37, 0, 999), 200);
        due.is("the line is just below the greatest TOP", demandedBy(0, 26, 38, 0, 999), 1030);
        due.is("no line at an X of 0", demandedBy(0, 40, 0, 0, 171), 210);
        due.is("a LINE has none", demandedBy(1, 40, 10, 0, 400), 480);
        due.is("an AREA has none", demandedBy(2, 40, 10, 0, 400), 490);
    }

    private static void beyondTheRunway() {
        due.sentence("2, one with an X below 0 counts by any Y");
        for (int y = -9; y <= 9; y++) {
            due.is("Y " + y, demandedBy(0, 40, -1, y, 296), 310);
        }
        due.is("an X of 0 is not beyond", demandedBy(0, 40, 0, 3, 999), 200);
        due.sentence("2, begins at what is demanded so far, less 30, and gains 25 for each of X; if TOP is above that");
        for (int beyond = 1; beyond <= 20; beyond++) {
            for (int kind = 0; kind < 3; kind++) {
                int base = 200 + 50 * kind;
                int climb = base - 30 + 25 * beyond;
                due.is("as high as the climb", demandedBy(kind, 10, -beyond, 0, climb), base);
                due.is("one above it", demandedBy(kind, 10, -beyond, 0, climb + 1), base + 10);
                due.is("ten above it", demandedBy(kind, 10, -beyond, 0, climb + 10), base + 10);
                due.is("eleven above it", demandedBy(kind, 10, -beyond, 0, climb + 11), base + 20);
            }
        }
    }

    private static void climb() {
        due.sentence("2, what is demanded so far");
        MinimaRoom room = Rooms.empty();
        room.procedure(1, 10);
        room.obstacle(0, 0, 418, 0, NONE);
        // So far 493, not yet rounded up: the climb is at 488 at an X of -1 and at 513 at an X of -2.
        room.obstacle(-1, 0, 488, 10, 10);
        room.obstacle(-1, 0, 495, 11, 11);
        room.obstacle(-1, 0, 496, 12, 12);
        due.is("as high", room.demanded(0, 10, 0), 500);
        due.is("7 above make 500", room.demanded(0, 11, 0), 500);
        due.is("8 above make 501", room.demanded(0, 12, 0), 510);
        due.sentence("2, by the one that is most above; of the others nothing more");
        room.obstacle(-2, 0, 521, 12, 12);
        due.is("two that are 8 above", room.demanded(0, 12, 0), 510);
        room.obstacle(-2, 0, 530, 12, 12);
        due.is("one is 17 above", room.demanded(0, 12, 0), 510);
        room.obstacle(-2, 0, 531, 12, 12);
        due.is("one is 18 above", room.demanded(0, 12, 0), 520);
        due.sentence("2, that is there on that DAY");
        room.obstacle(-1, 0, 600, 20, 21);
        due.is("ahead", room.demanded(0, 19, 0), 500);
        due.is("the first", room.demanded(0, 20, 0), 610);
        due.is("the last", room.demanded(0, 21, 0), 610);
        due.is("behind", room.demanded(0, 22, 0), 500);
    }

    private static void roundedUp() {
        due.sentence("2, rounded up to a number that can be divided by 10 (one that can stays)");
        for (int above = 0; above <= 20; above++) {
            int want = above == 0 ? 400 : above <= 10 ? 410 : 420;
            due.is("NEEDS " + (400 + above), demandedBy(1, 10, 0, 2, 400 + above), want);
        }
        due.sentence("2, then 10 more for each of the CATEGORY");
        MinimaRoom room = Rooms.empty();
        room.procedure(1, 10);
        room.obstacle(0, 2, 401, 1, 1);
        room.obstacle(0, 2, 410, 2, 2);
        for (int category = 0; category <= 3; category++) {
            due.is("CATEGORY " + category, room.demanded(0, 0, category), 250 + 10 * category);
            due.is("CATEGORY " + category, room.demanded(0, 1, category), 410 + 10 * category);
            due.is("CATEGORY " + category, room.demanded(0, 2, category), 410 + 10 * category);
        }
    }

    private static void greatestDemanded() {
        due.sentence("2, DEMANDED by the greatest and the least TOP");
        due.is("an AREA", demandedBy(2, 10, 0, 0, 999), 1090);
        due.is("a LINE", demandedBy(1, 10, 60, 7, 999), 1080);
        due.is("a GLIDE", demandedBy(0, 10, 60, 7, 999), 1030);
        due.is("the climb", demandedBy(0, 10, -1, 0, 999), 1010);
        due.is("the end of the climb", demandedBy(0, 10, -20, 0, 999), 530);
        due.is("the climb", demandedBy(0, 10, -1, 0, 0), 200);
        due.is("the end of the climb", demandedBy(0, 10, -20, 0, 0), 200);
        MinimaRoom room = Rooms.empty();
        room.procedure(2, 10);
        room.obstacle(0, 0, 999, 0, NONE);
        room.obstacle(-1, 0, 999, 0, NONE);
        due.is("the climb adds nothing to the greatest", room.demanded(0, 0, 3), 1120);
    }
}
