import java.util.ArrayList;
import java.util.Arrays;
import java.util.LinkedHashSet;
import java.util.List;
import java.util.Set;

/**
 * Each method with each number at the last that is allowed, at the first that is not and far away, any two of them at
 * once, in rooms that are empty, begun, full but for one, and full, and on the last DAY. Each call is made in a room of
 * its own; what it answers and what it leaves behind is compared with Model, and what a refused one leaves behind with
 * a twin of the room without that call.
 */
public final class EdgesTest {
    private static final int NONE = -1;
    private static final String[] CALLS = {
        "obstacle x y top day toOrGood", "end obstacle", "aid aid kind", "check aid 0..200", "procedure aid 10..40",
        "pass 1..60", "amend procedure", "raise procedure 1..500 dayToCome to", "out aid dayToCome to",
        "close procedure dayToCome to", "cancel notice", "load crew", "read crew", "ofObstacle obstacle 0..4",
        "demanded procedure day category", "decides procedure day", "chart procedure day",
        "inForce procedure day category", "ofNotice notice 0..5", "believes crew procedure dayToCome category",
        "misled crew", "many 0..19", "meanDemanded day", "permit x y top day toOrGood", "highest x y day toOrGood",
        "unsafeOn procedure", "raiseFor procedure", "digest",
    };

    private static int made = 0;
    private static int refused = 0;
    private static int wrong = 0;

    private final String name;
    private final List<String> told = new ArrayList<>();
    /** What the room answers that was asked for nothing else: a refused call is to leave it so. */
    private final String due;
    private final long digest;
    private final Model shape;

    private EdgesTest(String name, int obstacles, int procedures, int amendments, int notices, int now) {
        this.name = name;
        for (int i = 0; i < procedures; i++) {
            told.add("procedure " + (i + 1) % 3 + " " + (10 + i));
        }
        for (int i = 0; i < obstacles; i++) {
            told.add("obstacle " + (i % 3 == 2 ? -3 : 5 * i) + " " + (i % 4 - 1) + " " + (170 + 30 * i) + " 30 "
                    + (i % 2 == 0 ? NONE : 40 + 30 * i));
        }
        for (int i = 0; i < amendments && procedures > 0; i++) {
            told.add("amend " + i % procedures);
        }
        for (int i = 0; i < notices && procedures > 0; i++) {
            told.add(i == 3 ? "cancel 1" : i % 4 == 2 ? "close " + i % procedures + " 41 42"
                    : i % 4 == 1 ? "out " + i % 3 + " 40 50" : "raise " + i % procedures + " " + (20 + i) + " 30 399");
        }
        for (int day = 0; day < now; day += 40) {
            told.add("pass " + Math.min(40, now - day));
            told.add("load " + day / 40 % 3);
        }
        if (now > 0) {
            told.add("check 1 9");
            told.add("read 1");
        }
        due = look(build(new MinimaRoom()));
        digest = build(new MinimaRoom()).digest();
        shape = build(new Model());
    }

    public static void main(String[] args) {
        EdgesTest[] rooms = {
            new EdgesTest("empty", 0, 0, 0, 0, 0),
            new EdgesTest("begun", 1, 1, 1, 1, 5),
            new EdgesTest("with room for one of each", 11, 3, 19, 15, 40),
            new EdgesTest("full", 12, 4, 20, 16, 40),
            new EdgesTest("on the last DAY but one", 2, 2, 2, 2, 398),
            new EdgesTest("empty on the last DAY", 0, 0, 0, 0, 399),
            new EdgesTest("with room for one of each on the last DAY", 11, 3, 19, 15, 399),
            new EdgesTest("full on the last DAY", 12, 4, 20, 16, 399),
        };
        for (EdgesTest room : rooms) {
            for (String call : CALLS) {
                String[] words = call.split(" ");
                room.callAll(words, new int[words.length - 1], 0, 0);
            }
        }
        System.out.println(made + " calls, " + refused + " of them refused, " + wrong + " not as due");
        if (wrong != 0 || refused < 1000 || made - refused < 1000) {
            System.exit(1);
        }
    }

    private <T> T build(T target) {
        for (String call : told) {
            String[] words = call.split(" ");
            int[] numbers = Arrays.stream(words).skip(1).mapToInt(Integer::parseInt).toArray();
            String got = Answers.of(target, words[0], numbers);
            if (got.startsWith("throws")) {
                tell(call + " " + got + " while the room is made");
            }
        }
        return target;
    }

    /** Two numbers at the most are not in the middle. */
    private void callAll(String[] words, int[] numbers, int chosen, int odd) {
        if (chosen == numbers.length) {
            callOnce(words[0], numbers);
            return;
        }
        int before = chosen > 0 ? numbers[chosen - 1] : 0;
        int[] bounds = boundsOf(words[chosen + 1], before);
        int middle = bounds[0] + (bounds[1] - bounds[0]) / 3;
        numbers[chosen] = middle;
        callAll(words, numbers, chosen + 1, odd);
        if (odd == 2) {
            return;
        }
        Set<Integer> edges = new LinkedHashSet<>(Arrays.asList(Integer.MIN_VALUE, -2, -1, 0, bounds[0] - 1, bounds[0],
                bounds[1], bounds[1] + 1, Integer.MAX_VALUE));
        edges.remove(middle);
        for (int edge : edges) {
            numbers[chosen] = edge;
            callAll(words, numbers, chosen + 1, odd + 1);
        }
    }

    /** The least and the greatest that is allowed; a TO follows its FROM. */
    private int[] boundsOf(String what, int before) {
        switch (what) {
            case "x":
                return new int[] {-20, 60};
            case "y":
                return new int[] {-9, 9};
            case "top":
                return new int[] {0, 999};
            case "day":
                return new int[] {0, 399};
            case "dayToCome":
                return new int[] {shape.now, 399};
            case "to": case "toOrGood":
                return new int[] {Math.min(Math.max(before, 0), 399), 399};
            case "aid": case "kind":
                return new int[] {0, 2};
            case "crew": case "category":
                return new int[] {0, 3};
            case "obstacle":
                return new int[] {0, shape.obstacles.size() - 1};
            case "procedure":
                return new int[] {0, shape.procedures.size() - 1};
            case "notice":
                return new int[] {0, shape.notices.size() - 1};
            default:
                String[] ends = what.split("\\.\\.");
                return new int[] {Integer.parseInt(ends[0]), Integer.parseInt(ends[1])};
        }
    }

    private void callOnce(String method, int[] numbers) {
        MinimaRoom room = build(new MinimaRoom());
        String got = Answers.of(room, method, numbers);
        Model model = build(new Model());
        String want = Answers.of(model, method, numbers);
        made++;
        if (!got.equals(want)) {
            tell(method + Arrays.toString(numbers) + " answered " + got + ", due is " + want);
        }
        if (want.startsWith("throws")) {
            refused++;
            if (room.digest() != digest || !look(room).equals(due)) {
                tell(method + Arrays.toString(numbers) + " was refused, but changed the room");
            }
        } else if (!look(room).equals(look(model))) {
            tell(method + Arrays.toString(numbers) + " left the room otherwise than it is due");
        }
    }

    private void tell(String what) {
        wrong++;
        if (wrong <= 20) {
            System.out.println("a room " + name + ": " + what);
        }
    }

    /** What one can ask a room or the model of it, and then what it answers when more is told. */
    private static String look(Object room) {
        StringBuilder seen = new StringBuilder();
        askOfEach(seen, room);
        for (int crew = 0; crew < 4; crew++) {
            ask(seen, room, "misled", crew);
            ask(seen, room, "believes", crew, 0, 399, 0);
            ask(seen, room, "read", crew);
            ask(seen, room, "believes", crew, 0, 399, 0);
            ask(seen, room, "load", crew);
        }
        ask(seen, room, "end", 0);
        for (int aid = 0; aid < 3; aid++) {
            ask(seen, room, "procedure", aid, 40);
            ask(seen, room, "aid", aid, 2);
        }
        for (int i = 0; i < 2; i++) {
            ask(seen, room, "obstacle", 60, 9, 999, 20, NONE);
            ask(seen, room, "amend", 0);
            ask(seen, room, "raise", 0, 500, 399, 399);
            ask(seen, room, "cancel", 0);
        }
        ask(seen, room, "pass", 1);
        ask(seen, room, "many", 8);
        return seen.toString();
    }

    /** Some 220 calls at the most: with those that made the room they stay below 512. */
    private static void askOfEach(StringBuilder seen, Object room) {
        for (int what = 0; what < 20; what++) {
            ask(seen, room, "many", what);
        }
        for (int i = 0; i < 12; i++) {
            for (int what = 0; what < 5; what++) {
                ask(seen, room, "ofObstacle", i, what);
            }
        }
        for (int i = 0; i < 16; i++) {
            for (int what = 0; what < 6; what++) {
                ask(seen, room, "ofNotice", i, what);
            }
        }
        for (int p = 0; p < 4; p++) {
            for (int day : new int[] {28, 42, 399}) {
                ask(seen, room, "demanded", p, day, 3);
                ask(seen, room, "inForce", p, day, 0);
                ask(seen, room, "chart", p, day);
            }
            ask(seen, room, "decides", p, 42);
            ask(seen, room, "unsafeOn", p);
        }
    }

    private static void ask(StringBuilder seen, Object room, String name, int... numbers) {
        seen.append(name).append(' ').append(Answers.of(room, name, numbers)).append('\n');
    }
}
