/** Promises 25 to 29. */
public final class WhatWouldBeTest {
    private static final int NONE = -1;
    private static final Due due = new Due();

    public static void main(String[] args) {
        permit();
        permitDays();
        permitHarmsWhatIsSafe();
        placesRefused();
        highest();
        highestOfSeveral();
        unsafeOn();
        raiseFor();
        raiseForMuch();
        digest();
        due.end();
    }

    /** A GLIDE of 200, a LINE of 250 and an AREA of 300, all IN FORCE from 28 to 200. */
    private static MinimaRoom charted() {
        MinimaRoom room = new MinimaRoom();
        for (int p = 0; p < 3; p++) {
            room.procedure(p, 10);
            room.check(p, 200);
            room.amend(p);
        }
        return room;
    }

    private static void permit() {
        due.promise(25);
        MinimaRoom room = charted();
        due.is("harms none", room.permit(0, 0, 170, 0, NONE), 0);
        due.is("harms the GLIDE", room.permit(0, 0, 171, 0, NONE), 1);
        due.is("harms the GLIDE", room.permit(0, 0, 175, 0, NONE), 1);
        due.is("harms the LINE too", room.permit(0, 0, 176, 0, NONE), 3);
        due.is("harms all", room.permit(0, 0, 211, 0, NONE), 7);
        due.is("no GLIDE", room.permit(30, 0, 300, 0, NONE), 6);
        due.is("elsewhere", room.permit(0, 3, 999, 0, NONE), 0);
        due.is("the climb", room.permit(-1, 9, 195, 0, NONE), 0);
        due.is("the climb", room.permit(-1, 9, 196, 0, NONE), 1);
        due.is("the climb", room.permit(-1, 9, 999, 0, NONE), 7);
        for (int i = 0; i < 12; i++) {
            room.obstacle(0, 9, 0, 0, NONE);
        }
        long before = room.digest();
        due.is("with twelve OBSTACLES", room.permit(0, 0, 176, 0, NONE), 3);
        due.is("nothing is changed", room.digest(), before);
    }

    private static void permitDays() {
        due.promise(25);
        MinimaRoom room = charted();
        due.is("ahead of the CHART", room.permit(0, 0, 999, 0, 27), 0);
        due.is("on its first DAY", room.permit(0, 0, 999, 0, 28), 7);
        due.is("on the last DAY of the CHECK", room.permit(0, 0, 999, 200, NONE), 7);
        due.is("behind the CHECK", room.permit(0, 0, 999, 201, 399), 0);
        room.raise(0, 300, 0, 100);
        room.close(1, 40, 399);
        room.raise(2, 5, 0, 399);
        due.is("RAISED enough", room.permit(0, 0, 470, 28, 100), 6);
        due.is("and not behind it", room.permit(0, 0, 470, 28, 101), 7);
        due.is("CLOSED", room.permit(0, 0, 470, 40, 100), 4);
        due.is("not to a ten", room.permit(0, 0, 210, 40, 100), 0);
        due.is("not to a ten", room.permit(0, 0, 211, 40, 100), 4);
        room.pass(60);
        due.is("what is gone is not looked at", room.permit(0, 0, 999, 0, 59), 0);
        due.is("NOW is", room.permit(0, 0, 999, 0, 60), 5);
        due.is("from NOW", room.permit(0, 0, 999, 60, 60), 5);
    }

    private static void permitHarmsWhatIsSafe() {
        due.promise(25);
        MinimaRoom room = charted();
        room.obstacle(0, 0, 400, 0, 60);
        due.is("UNSAFE without it", room.permit(0, 0, 999, 0, 60), 0);
        due.is("safe on one DAY", room.permit(0, 0, 999, 0, 61), 7);
        due.is("highest() while UNSAFE", room.highest(0, 0, 0, 60), 999);
        due.is("highest() with one DAY that is safe", room.highest(0, 0, 0, 61), 170);
        room.close(0, 61, 399);
        due.is("highest() with one that is CLOSED", room.highest(0, 0, 0, 61), 175);
        room.raise(1, 300, 61, 61);
        due.is("highest() with a RAISE", room.highest(0, 0, 0, 61), 210);
        due.is("highest() behind the RAISE", room.highest(0, 0, 0, 62), 175);
    }

    private static void placesRefused() {
        MinimaRoom room = charted();
        int[][] wrong = {
            {-21, 0, 0, NONE}, {61, 0, 0, NONE}, {0, -10, 0, NONE}, {0, 10, 0, NONE}, {0, 0, -1, NONE},
            {0, 0, 400, NONE}, {0, 0, 400, 400}, {0, 0, 0, -2}, {0, 0, 10, 9}, {0, 0, 10, 400},
        };
        for (int[] w : wrong) {
            String place = java.util.Arrays.toString(w);
            due.promise(25);
            due.refused(room, "permit" + place, Due.ARGUMENT, () -> room.permit(w[0], w[1], 0, w[2], w[3]));
            due.promise(26);
            due.refused(room, "highest" + place, Due.ARGUMENT, () -> room.highest(w[0], w[1], w[2], w[3]));
        }
        due.promise(25);
        due.refused(room, "TOP -1", Due.ARGUMENT, () -> room.permit(0, 0, -1, 0, NONE));
        due.refused(room, "TOP 1000", Due.ARGUMENT, () -> room.permit(0, 0, 1000, 0, NONE));
        due.is("edges", room.permit(-20, -9, 0, 0, 0), 0);
        due.is("edges", room.permit(60, 9, 999, 399, 399), 0);
        due.promise(26);
        due.is("edges", room.highest(-20, -9, 0, 0), 999);
        due.is("edges", room.highest(60, 9, 399, 399), 999);
    }

    private static void highest() {
        due.promise(26);
        MinimaRoom room = new MinimaRoom();
        room.procedure(0, 20);
        room.check(0, 200);
        room.amend(0);
        due.is("on the line", room.highest(0, 0, 0, NONE), 170);
        due.is("in the SECOND part", room.highest(0, 2, 0, NONE), 200);
        due.is("elsewhere", room.highest(0, 3, 0, NONE), 999);
        due.is("below the GLIDE", room.highest(30, 0, 0, NONE), 600);
        due.is("below the GLIDE, all of them", room.highest(50, 0, 0, NONE), 999);
        due.is("where the GLIDE is low", room.highest(8, 0, 0, NONE), 170);
        due.is("the climb", room.highest(-1, 9, 0, NONE), 195);
        due.is("the climb", room.highest(-20, 0, 0, NONE), 670);
        due.is("ahead of the CHART", room.highest(0, 0, 0, 27), 999);
        due.is("behind the CHECK", room.highest(0, 0, 201, NONE), 999);
        room.raise(0, 24, 40, 50);
        due.is("with a RAISE", room.highest(0, 0, 40, 50), 190);
        due.is("with and without a RAISE", room.highest(0, 0, 40, 51), 170);
        room.pass(60);
        due.is("what is gone is not looked at", room.highest(0, 0, 0, 59), 999);
        due.is("NOW is", room.highest(0, 0, 0, 60), 170);
    }

    private static void highestOfSeveral() {
        due.promise(26);
        MinimaRoom room = charted();
        due.is("the least of all", room.highest(0, 0, 0, NONE), 170);
        due.is("by the LINE", room.highest(30, 0, 0, NONE), 175);
        room.close(1, 0, 399);
        due.is("by the AREA", room.highest(30, 0, 0, NONE), 210);
        room.out(2, 0, 399);
        due.is("by the GLIDE", room.highest(30, 0, 0, NONE), 300);
    }

    private static void unsafeOn() {
        due.promise(27);
        MinimaRoom room = charted();
        due.is("none", room.unsafeOn(0), NONE);
        room.obstacle(0, 0, 175, 20, 40);
        due.is("the first with a CHART", room.unsafeOn(0), 28);
        due.is("none", room.unsafeOn(1), NONE);
        room.obstacle(0, 0, 400, 150, 390);
        due.is("later", room.unsafeOn(1), 150);
        room.raise(1, 230, 150, 160);
        due.is("behind the RAISE", room.unsafeOn(1), 161);
        room.raise(1, 229, 161, 170);
        due.is("the RAISE is one too little", room.unsafeOn(1), 161);
        room.check(1, 160);
        due.is("not GOOD then", room.unsafeOn(1), NONE);
        room.pass(40);
        due.is("NOW", room.unsafeOn(0), 40);
        room.pass(1);
        due.is("from NOW on", room.unsafeOn(0), 150);
        due.refused(room, "unsafeOn(-1)", Due.INDEX, () -> room.unsafeOn(-1));
        due.refused(room, "unsafeOn(3)", Due.INDEX, () -> room.unsafeOn(3));
        MinimaRoom last = charted();
        last.obstacle(0, 0, 400, 399, 399);
        last.pass(60);
        last.pass(60);
        last.pass(60);
        last.pass(60);
        last.check(2, 200);
        due.is("the last DAY", last.unsafeOn(2), 399);
        due.promise(28);
        due.is("for the last DAY", last.raiseFor(2), 190);
    }

    private static void raiseFor() {
        due.promise(28);
        MinimaRoom room = charted();
        due.is("none is UNSAFE", room.raiseFor(0), 0);
        room.obstacle(0, 0, 400, 100, 110);
        due.is("one", room.raiseFor(0), 230);
        room.raise(0, 100, 0, 399);
        due.is("the greatest RAISE counts, not the sum", room.raiseFor(0), 230);
        room.obstacle(0, 0, 300, 90, 90);
        due.is("one that is enough for both", room.raiseFor(0), 230);
        room.raise(0, 230, 100, 110);
        due.is("what is left", room.raiseFor(0), 130);
        room.pass(60);
        room.pass(30);
        due.is("NOW", room.raiseFor(0), 130);
        room.pass(1);
        due.is("from NOW on", room.raiseFor(0), 0);
        due.is("the LINE", room.raiseFor(1), 230);
        room.close(1, 100, 110);
        due.is("CLOSED", room.raiseFor(1), 0);
        due.refused(room, "raiseFor(-1)", Due.INDEX, () -> room.raiseFor(-1));
        due.refused(room, "raiseFor(3)", Due.INDEX, () -> room.raiseFor(3));
    }

    private static void raiseForMuch() {
        due.promise(28);
        MinimaRoom room = charted();
        room.obstacle(0, 0, 670, 100, 110);
        due.is("500 is enough", room.raiseFor(0), 500);
        room.obstacle(0, 0, 671, 100, 110);
        due.is("500 is too little", room.raiseFor(0), NONE);
        room.raise(0, 500, 90, 399);
        due.is("500 is too little all the same", room.raiseFor(0), NONE);
        room.end(1);
        due.is("one DAY is one too many", room.raiseFor(0), NONE);
        room.close(0, 100, 100);
        due.is("500 is told already", room.raiseFor(0), 0);
    }

    private static void digest() {
        due.promise(29);
        due.is("digest() of a new room", new MinimaRoom().digest(), 2720396009852859555L);
        for (int steps = 0; steps < 4; steps++) {
            MinimaRoom room = told(steps);
            due.is("digest() after " + steps, room.digest(), digestOf(room));
            due.is("digest() changes nothing", room.digest(), digestOf(told(steps)));
        }
        due.is("a CREW is misled", told(3).misled(2), 2);
    }

    private static MinimaRoom told(int steps) {
        MinimaRoom room = steps == 0 ? new MinimaRoom() : charted();
        if (steps > 1) {
            room.obstacle(0, 0, 400, 100, 110);
            room.obstacle(-3, 0, 400, 0, NONE);
            room.raise(0, 100, 30, 200);
            room.load(1);
            room.read(3);
            room.pass(40);
            room.amend(0);
            room.out(2, 40, 60);
            room.cancel(0);
            room.load(2);
            room.read(2);
        }
        if (steps > 2) {
            room.raise(2, 5, 40, 50);
            room.close(1, 40, 50);
            room.cancel(3);
            room.pass(1);
            room.aid(1, 0);
        }
        return room;
    }

    private static long digestOf(MinimaRoom room) {
        long d = 4815;
        for (int what = 0; what <= 19; what++) {
            d = d * 31 + room.many(what);
        }
        for (int i = 0; i < room.many(0); i++) {
            for (int what = 0; what <= 4; what++) {
                d = d * 31 + room.ofObstacle(i, what);
            }
        }
        int now = room.many(1);
        for (int p = 0; p < room.many(2); p++) {
            int[] of = {
                room.demanded(p, now, 0), room.inForce(p, now, 0), room.chart(p, now), room.chart(p, 399),
                room.decides(p, now), room.unsafeOn(p), room.raiseFor(p),
            };
            for (int v : of) {
                d = d * 31 + v;
            }
        }
        for (int i = 0; i < room.many(4); i++) {
            for (int what = 0; what <= 5; what++) {
                d = d * 31 + room.ofNotice(i, what);
            }
        }
        for (int crew = 0; crew <= 3; crew++) {
            d = d * 31 + room.misled(crew);
            for (int p = 0; p < room.many(2); p++) {
                d = d * 31 + room.believes(crew, p, now, 1);
            }
        }
        return d;
    }
}
