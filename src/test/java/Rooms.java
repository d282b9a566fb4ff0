/** Rooms to begin a test with. */
final class Rooms {
    private static final int NONE = -1;

    private Rooms() {
    }

    static MinimaRoom empty() {
        return new MinimaRoom();
    }

    /** One of each: an OBSTACLE that nothing NEEDS, a GLIDE of 200 from the DAY 28 on, and a RAISE on the last DAY. */
    static MinimaRoom one() {
        MinimaRoom room = new MinimaRoom();
        room.obstacle(0, 9, 0, 0, NONE);
        room.procedure(0, 20);
        room.amend(0);
        room.raise(0, 1, 399, 399);
        return room;
    }

    /**
     * As many as there may be: 12 OBSTACLES that nothing NEEDS; a GLIDE of 200, a LINE of 250, an AREA of 300 and a
     * second GLIDE, with 5 AMENDMENTS each; 15 NOTICES of the last DAY and a CANCEL.
     */
    static MinimaRoom full() {
        MinimaRoom room = new MinimaRoom();
        for (int i = 0; i < 12; i++) {
            room.obstacle(0, 9, i, 0, NONE);
        }
        for (int p = 0; p < 4; p++) {
            room.procedure(p % 3, 20);
        }
        for (int i = 0; i < 20; i++) {
            room.amend(i % 4);
        }
        for (int i = 0; i < 15; i++) {
            room.raise(3, 1 + i, 399, 399);
        }
        room.cancel(0);
        return room;
    }

    /** A GLIDE of 200, a LINE of 250 and an AREA of 300, all IN FORCE from the DAY 28 to 200. */
    static MinimaRoom charted() {
        MinimaRoom room = new MinimaRoom();
        for (int p = 0; p < 3; p++) {
            room.procedure(p, 20);
            room.check(p, 200);
            room.amend(p);
        }
        return room;
    }

    static MinimaRoom passTo(MinimaRoom room, int day) {
        for (int now = room.many(1); now < day; now = room.many(1)) {
            room.pass(Math.min(60, day - now));
        }
        return room;
    }
}
