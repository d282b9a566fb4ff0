import java.util.function.Supplier;

/**
 * Each number of each method by its sentence 'Throws ..': the last that is allowed, the first that is not and the
 * farthest, in rooms that are empty, that hold one of each, and that are full.
 */
public final class NumbersTest {
    private static final int NONE = -1;
    private static final Due due = new Due();

    interface Numbered {
        long answer(MinimaRoom room, int number);
    }

    public static void main(String[] args) {
        obstaclesAndProcedures();
        noticesOfProcedures();
        noticesOfAids();
        cancelsAndCrews();
        askingOfOne();
        askingOfDays();
        believing();
        whatWouldBe();
        due.end();
    }

    /** In this room these numbers are allowed, and none beside them. */
    private static void within(Supplier<MinimaRoom> rooms, int least, int greatest, Class<?> wrong, Numbered call) {
        outside(rooms, least, greatest, wrong, call);
        for (int n : new int[] {least, greatest}) {
            try {
                call.answer(rooms.get(), n);
                due.is("an answer to " + n, 1, 1);
            } catch (RuntimeException e) {
                due.tell(n + " is refused by " + e.getClass().getName() + ", though it is allowed");
            }
        }
    }

    /** These numbers would be allowed, but the room is full. */
    private static void fullWithin(int least, int greatest, Class<?> wrong, Numbered call) {
        outside(Rooms::full, least, greatest, wrong, call);
        for (int n : new int[] {least, greatest}) {
            MinimaRoom room = Rooms.full();
            due.refused(room, "" + n + " in a full room", Due.STATE, () -> call.answer(room, n));
        }
    }

    private static void outside(Supplier<MinimaRoom> rooms, int least, int greatest, Class<?> wrong, Numbered call) {
        MinimaRoom room = rooms.get();
        for (int n : new int[] {least - 1, greatest + 1, Integer.MIN_VALUE, Integer.MAX_VALUE}) {
            due.refused(room, "" + n, wrong, () -> call.answer(room, n));
        }
    }

    /** Allowed are these numbers in an empty room and in a full one. */
    private static void always(int least, int greatest, Class<?> wrong, Numbered call) {
        within(Rooms::empty, least, greatest, wrong, call);
        within(Rooms::full, least, greatest, wrong, call);
    }

    private static void alwaysButFull(int least, int greatest, Class<?> wrong, Numbered call) {
        within(Rooms::empty, least, greatest, wrong, call);
        fullWithin(least, greatest, wrong, call);
    }

    /** Allowed are the numbers of those that there are. */
    private static void index(int inFull, Numbered call) {
        MinimaRoom empty = Rooms.empty();
        for (int n : new int[] {NONE, 0, 1, Integer.MIN_VALUE, Integer.MAX_VALUE}) {
            due.refused(empty, n + " in an empty room", Due.INDEX, () -> call.answer(empty, n));
        }
        within(Rooms::one, 0, 0, Due.INDEX, call);
        within(Rooms::full, 0, inFull - 1, Due.INDEX, call);
    }

    private static void indexButFull(int inFull, Numbered call) {
        MinimaRoom empty = Rooms.empty();
        for (int n : new int[] {NONE, 0, 1, Integer.MIN_VALUE, Integer.MAX_VALUE}) {
            due.refused(empty, n + " in an empty room", Due.INDEX, () -> call.answer(empty, n));
        }
        within(Rooms::one, 0, 0, Due.INDEX, call);
        fullWithin(0, inFull - 1, Due.INDEX, call);
    }

    /** Allowed where there is one of each; in a full room if it is not full by this. */
    private static void ofOne(int least, int greatest, Numbered call) {
        within(Rooms::one, least, greatest, Due.ARGUMENT, call);
        within(Rooms::full, least, greatest, Due.ARGUMENT, call);
    }

    private static MinimaRoom oneOn40() {
        return Rooms.passTo(Rooms.one(), 40);
    }

    private static MinimaRoom emptyOn40() {
        return Rooms.passTo(Rooms.empty(), 40);
    }

    private static MinimaRoom oneOn399() {
        return Rooms.passTo(Rooms.one(), 399);
    }

    private static void obstaclesAndProcedures() {
        due.sentence("2, x not -20 to 60");
        alwaysButFull(-20, 60, Due.ARGUMENT, (room, n) -> room.obstacle(n, 0, 100, 0, NONE));
        due.sentence("2, y not -9 to 9");
        alwaysButFull(-9, 9, Due.ARGUMENT, (room, n) -> room.obstacle(0, n, 100, 0, NONE));
        due.sentence("2, top not 0 to 999");
        alwaysButFull(0, 999, Due.ARGUMENT, (room, n) -> room.obstacle(0, 0, n, 0, NONE));
        due.sentence("2, from not 0 to 399");
        alwaysButFull(0, 399, Due.ARGUMENT, (room, n) -> room.obstacle(0, 0, 100, n, NONE));
        due.sentence("2, to not NONE or from to 399: from 0");
        alwaysButFull(NONE, 399, Due.ARGUMENT, (room, n) -> room.obstacle(0, 0, 100, 0, n));
        due.sentence("2, to not NONE or from to 399: from 30");
        alwaysButFull(30, 399, Due.ARGUMENT, (room, n) -> room.obstacle(0, 0, 100, 30, n));
        due.sentence("2, to not NONE or from to 399: from 399");
        alwaysButFull(399, 399, Due.ARGUMENT, (room, n) -> room.obstacle(0, 0, 100, 399, n));
        due.sentence("3, there is no such OBSTACLE");
        index(12, (room, n) -> room.end(n));
        due.sentence("4, aid is not 0 to 2");
        always(0, 2, Due.INDEX, (room, n) -> room.aid(n, 1));
        due.sentence("4, kind is not 0 to 2");
        always(0, 2, Due.ARGUMENT, (room, n) -> room.aid(1, n));
        due.sentence("5, aid is not 0 to 2");
        always(0, 2, Due.INDEX, (room, n) -> room.check(n, 100));
        due.sentence("5, days is not 0 to 200");
        always(0, 200, Due.ARGUMENT, (room, n) -> room.check(1, n));
        due.sentence("6, aid is not 0 to 2");
        alwaysButFull(0, 2, Due.INDEX, (room, n) -> room.procedure(n, 20));
        due.sentence("6, slope is not 10 to 40");
        alwaysButFull(10, 40, Due.ARGUMENT, (room, n) -> room.procedure(1, n));
        due.sentence("7, days is not 1 to 60");
        always(1, 60, Due.ARGUMENT, (room, n) -> room.pass(n));
        due.sentence("8, there is no such PROCEDURE");
        indexButFull(4, (room, n) -> room.amend(n));
    }

    private static void noticesOfProcedures() {
        due.sentence("9, there is no such PROCEDURE");
        indexButFull(4, (room, n) -> room.raise(n, 10, 20, 30));
        due.sentence("9, by is not 1 to 500");
        within(Rooms::one, 1, 500, Due.ARGUMENT, (room, n) -> room.raise(0, n, 20, 30));
        fullWithin(1, 500, Due.ARGUMENT, (room, n) -> room.raise(0, n, 20, 30));
        due.sentence("9, from not NOW to 399");
        within(Rooms::one, 0, 399, Due.ARGUMENT, (room, n) -> room.raise(0, 10, n, 399));
        within(NumbersTest::oneOn40, 40, 399, Due.ARGUMENT, (room, n) -> room.raise(0, 10, n, 399));
        within(NumbersTest::oneOn399, 399, 399, Due.ARGUMENT, (room, n) -> room.raise(0, 10, n, 399));
        fullWithin(0, 399, Due.ARGUMENT, (room, n) -> room.raise(0, 10, n, 399));
        due.sentence("9, to not from to 399");
        within(Rooms::one, 0, 399, Due.ARGUMENT, (room, n) -> room.raise(0, 10, 0, n));
        within(NumbersTest::oneOn40, 50, 399, Due.ARGUMENT, (room, n) -> room.raise(0, 10, 50, n));
        within(NumbersTest::oneOn399, 399, 399, Due.ARGUMENT, (room, n) -> room.raise(0, 10, 399, n));
        fullWithin(50, 399, Due.ARGUMENT, (room, n) -> room.raise(0, 10, 50, n));
        due.sentence("11, there is no such PROCEDURE");
        indexButFull(4, (room, n) -> room.close(n, 20, 30));
        due.sentence("11, from not NOW to 399");
        within(Rooms::one, 0, 399, Due.ARGUMENT, (room, n) -> room.close(0, n, 399));
        within(NumbersTest::oneOn40, 40, 399, Due.ARGUMENT, (room, n) -> room.close(0, n, 399));
        within(NumbersTest::oneOn399, 399, 399, Due.ARGUMENT, (room, n) -> room.close(0, n, 399));
        fullWithin(0, 399, Due.ARGUMENT, (room, n) -> room.close(0, n, 399));
        due.sentence("11, to not from to 399");
        within(Rooms::one, 0, 399, Due.ARGUMENT, (room, n) -> room.close(0, 0, n));
        within(NumbersTest::oneOn40, 50, 399, Due.ARGUMENT, (room, n) -> room.close(0, 50, n));
        within(NumbersTest::oneOn399, 399, 399, Due.ARGUMENT, (room, n) -> room.close(0, 399, n));
        fullWithin(50, 399, Due.ARGUMENT, (room, n) -> room.close(0, 50, n));
    }

    private static void noticesOfAids() {
        due.sentence("10, aid is not 0 to 2");
        alwaysButFull(0, 2, Due.INDEX, (room, n) -> room.out(n, 20, 30));
        due.sentence("10, from not NOW to 399");
        alwaysButFull(0, 399, Due.ARGUMENT, (room, n) -> room.out(0, n, 399));
        within(NumbersTest::emptyOn40, 40, 399, Due.ARGUMENT, (room, n) -> room.out(0, n, 399));
        within(NumbersTest::oneOn399, 399, 399, Due.ARGUMENT, (room, n) -> room.out(0, n, 399));
        due.sentence("10, to not from to 399");
        alwaysButFull(0, 399, Due.ARGUMENT, (room, n) -> room.out(0, 0, n));
        alwaysButFull(50, 399, Due.ARGUMENT, (room, n) -> room.out(0, 50, n));
        within(NumbersTest::emptyOn40, 40, 399, Due.ARGUMENT, (room, n) -> room.out(0, 40, n));
        within(NumbersTest::oneOn399, 399, 399, Due.ARGUMENT, (room, n) -> room.out(0, 399, n));
    }

    private static void cancelsAndCrews() {
        due.sentence("12, there is no such NOTICE");
        indexButFull(16, (room, n) -> room.cancel(n));
        due.sentence("13, crew is not 0 to 3");
        always(0, 3, Due.INDEX, (room, n) -> room.load(n));
        due.sentence("14, crew is not 0 to 3");
        always(0, 3, Due.INDEX, (room, n) -> room.read(n));
    }

    private static void askingOfOne() {
        due.sentence("15, there is no such OBSTACLE");
        index(12, (room, n) -> room.ofObstacle(n, 0));
        due.sentence("15, what is not 0 to 4");
        ofOne(0, 4, (room, n) -> room.ofObstacle(0, n));
        due.sentence("20, there is no such NOTICE");
        index(16, (room, n) -> room.ofNotice(n, 0));
        due.sentence("20, what is not 0 to 5");
        ofOne(0, 5, (room, n) -> room.ofNotice(0, n));
        due.sentence("22, crew is not 0 to 3");
        always(0, 3, Due.INDEX, (room, n) -> room.misled(n));
        due.sentence("23, what is not 0 to 19");
        always(0, 19, Due.ARGUMENT, (room, n) -> room.many(n));
    }

    private static void askingOfDays() {
        due.sentence("16, there is no such PROCEDURE");
        index(4, (room, n) -> room.demanded(n, 0, 0));
        due.sentence("16, day is not 0 to 399");
        ofOne(0, 399, (room, n) -> room.demanded(0, n, 0));
        due.sentence("16, category is not 0 to 3");
        ofOne(0, 3, (room, n) -> room.demanded(0, 0, n));
        due.sentence("17, there is no such PROCEDURE");
        index(4, (room, n) -> room.decides(n, 0));
        due.sentence("17, day is not 0 to 399");
        ofOne(0, 399, (room, n) -> room.decides(0, n));
        due.sentence("18, there is no such PROCEDURE");
        index(4, (room, n) -> room.chart(n, 0));
        due.sentence("18, day is not 0 to 399");
        ofOne(0, 399, (room, n) -> room.chart(0, n));
        due.sentence("19, there is no such PROCEDURE");
        index(4, (room, n) -> room.inForce(n, 0, 0));
        due.sentence("19, day is not 0 to 399");
        ofOne(0, 399, (room, n) -> room.inForce(0, n, 0));
        due.sentence("19, category is not 0 to 3");
        ofOne(0, 3, (room, n) -> room.inForce(0, 0, n));
        due.sentence("24, day is not 0 to 399");
        always(0, 399, Due.ARGUMENT, (room, n) -> (long) room.meanDemanded(n));
        due.sentence("16 to 19 and 24, a DAY may be gone");
        within(NumbersTest::oneOn40, 0, 399, Due.ARGUMENT, (room, n) -> room.demanded(0, n, 0));
        within(NumbersTest::oneOn40, 0, 399, Due.ARGUMENT, (room, n) -> room.decides(0, n));
        within(NumbersTest::oneOn40, 0, 399, Due.ARGUMENT, (room, n) -> room.chart(0, n));
        within(NumbersTest::oneOn40, 0, 399, Due.ARGUMENT, (room, n) -> room.inForce(0, n, 0));
        within(NumbersTest::oneOn40, 0, 399, Due.ARGUMENT, (room, n) -> (long) room.meanDemanded(n));
    }

    private static void believing() {
        due.sentence("21, crew is not 0 to 3");
        within(Rooms::one, 0, 3, Due.INDEX, (room, n) -> room.believes(n, 0, 0, 0));
        within(Rooms::full, 0, 3, Due.INDEX, (room, n) -> room.believes(n, 0, 0, 0));
        due.sentence("21, there is no such PROCEDURE");
        index(4, (room, n) -> room.believes(0, n, 0, 0));
        due.sentence("21, day is not NOW to 399");
        ofOne(0, 399, (room, n) -> room.believes(0, 0, n, 0));
        within(NumbersTest::oneOn40, 40, 399, Due.ARGUMENT, (room, n) -> room.believes(0, 0, n, 0));
        within(NumbersTest::oneOn399, 399, 399, Due.ARGUMENT, (room, n) -> room.believes(0, 0, n, 0));
        due.sentence("21, category is not 0 to 3");
        ofOne(0, 3, (room, n) -> room.believes(0, 0, 0, n));
    }

    private static void whatWouldBe() {
        due.sentence("25, x not -20 to 60");
        always(-20, 60, Due.ARGUMENT, (room, n) -> room.permit(n, 0, 100, 0, NONE));
        due.sentence("25, y not -9 to 9");
        always(-9, 9, Due.ARGUMENT, (room, n) -> room.permit(0, n, 100, 0, NONE));
        due.sentence("25, top not 0 to 999");
        always(0, 999, Due.ARGUMENT, (room, n) -> room.permit(0, 0, n, 0, NONE));
        due.sentence("25, from not 0 to 399");
        always(0, 399, Due.ARGUMENT, (room, n) -> room.permit(0, 0, 100, n, NONE));
        within(NumbersTest::oneOn40, 0, 399, Due.ARGUMENT, (room, n) -> room.permit(0, 0, 100, n, NONE));
        due.sentence("25, to not NONE or from to 399");
        always(NONE, 399, Due.ARGUMENT, (room, n) -> room.permit(0, 0, 100, 0, n));
        always(30, 399, Due.ARGUMENT, (room, n) -> room.permit(0, 0, 100, 30, n));
        within(NumbersTest::oneOn40, 30, 399, Due.ARGUMENT, (room, n) -> room.permit(0, 0, 100, 30, n));
        due.sentence("26, x not -20 to 60");
        always(-20, 60, Due.ARGUMENT, (room, n) -> room.highest(n, 0, 0, NONE));
        due.sentence("26, y not -9 to 9");
        always(-9, 9, Due.ARGUMENT, (room, n) -> room.highest(0, n, 0, NONE));
        due.sentence("26, from not 0 to 399");
        always(0, 399, Due.ARGUMENT, (room, n) -> room.highest(0, 0, n, NONE));
        within(NumbersTest::oneOn40, 0, 399, Due.ARGUMENT, (room, n) -> room.highest(0, 0, n, NONE));
        due.sentence("26, to not NONE or from to 399");
        always(NONE, 399, Due.ARGUMENT, (room, n) -> room.highest(0, 0, 0, n));
        always(30, 399, Due.ARGUMENT, (room, n) -> room.highest(0, 0, 30, n));
        within(NumbersTest::oneOn40, 30, 399, Due.ARGUMENT, (room, n) -> room.highest(0, 0, 30, n));
        due.sentence("27, there is no such PROCEDURE");
        index(4, (room, n) -> room.unsafeOn(n));
        due.sentence("28, there is no such PROCEDURE");
        index(4, (room, n) -> room.raiseFor(n));
    }
}
