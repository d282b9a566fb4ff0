import java.util.HashMap;
import java.util.Map;
import java.util.Random;

/** Random runs of 512 calls, the digest() at their end with them, each answer compared with that of Model: all promises. */
public final class ModelTest {
    private static final int RUNS = 400;
    /** One fewer than are promised: a digest() ends the run. */
    private static final int CALLS = 511;
    private static final String[] TELLING = {
        "obstacle", "obstacle", "obstacle", "end", "aid", "check", "check", "procedure", "procedure", "pass", "pass",
        "amend", "amend", "raise", "out", "close", "cancel", "load", "read",
    };
    private static final String[] ASKING = {
        "ofObstacle", "demanded", "demanded", "decides", "decides", "chart", "inForce", "inForce", "ofNotice",
        "believes", "believes", "misled", "misled", "many", "meanDemanded", "permit", "permit", "highest", "unsafeOn",
        "raiseFor", "digest",
    };

    private final Random random;
    private final MinimaRoom room = new MinimaRoom();
    private final Model model = new Model();
    /** A hasty run tells much and soon comes to the limits and the last DAY; the others stay long in the midst. */
    private final boolean hasty;

    private ModelTest(int seed) {
        random = new Random(seed);
        hasty = seed % 4 == 0;
    }

    public static void main(String[] args) {
        Map<String, Integer> seen = new HashMap<>();
        for (int seed = 0; seed < RUNS; seed++) {
            new ModelTest(seed).run(seed, seen);
        }
        for (String name : ASKING) {
            requireSeen(seen, name);
        }
        for (String name : TELLING) {
            requireSeen(seen, name);
        }
        System.out.println(RUNS + " runs of " + CALLS + " calls are as in the model");
    }

    private static void requireSeen(Map<String, Integer> seen, String name) {
        if (seen.getOrDefault(name, 0) < 100) {
            System.out.println(name + " was answered too seldom to be tested");
            System.exit(1);
        }
    }

    private void run(int seed, Map<String, Integer> seen) {
        for (int i = 0; i < CALLS; i++) {
            String[] names = random.nextInt(hasty ? 2 : 5) == 0 ? TELLING : ASKING;
            String name = i < 40 ? TELLING[random.nextInt(TELLING.length)] : names[random.nextInt(names.length)];
            int[] a = numbersFor(name);
            String got = Answers.of(room, name, a);
            String due = Answers.of(model, name, a);
            if (!got.equals(due)) {
                System.out.println("seed " + seed + ", call " + i + ": " + name + java.util.Arrays.toString(a)
                        + " answered " + got + ", due is " + due);
                System.exit(1);
            }
            if (!got.startsWith("throws")) {
                seen.merge(name, 1, Integer::sum);
            }
        }
        if (room.digest() != model.digest()) {
            System.out.println("seed " + seed + ": the rooms differ at the end");
            System.exit(1);
        }
    }

    private int from(int least, int most) {
        long span = (long) most - least + 1;
        return span > Integer.MAX_VALUE ? random.nextInt() : least + random.nextInt((int) span);
    }

    /** Within its bounds as a rule, now and then just outside or far away. */
    private int in(int least, int most) {
        int luck = random.nextInt(60);
        if (luck == 0) {
            return least - 1;
        }
        if (luck == 1) {
            return most + 1;
        }
        if (luck == 2) {
            return random.nextInt();
        }
        return from(Math.min(least, most), Math.max(least, most));
    }

    private int day() {
        return random.nextInt(3) == 0 ? in(0, 399) : in(model.now, Math.min(399, model.now + 90));
    }

    private int top() {
        return random.nextInt(3) == 0 ? in(0, 999) : in(100, 500);
    }

    private int x() {
        return random.nextInt(3) == 0 ? in(-20, -1) : random.nextBoolean() ? in(0, 20) : in(0, 60);
    }

    private int obstacle() {
        return in(0, Math.max(0, model.obstacles.size() - 1));
    }

    private int procedure() {
        return in(0, Math.max(0, model.procedures.size() - 1));
    }

    private int notice() {
        return in(0, Math.max(0, model.notices.size() - 1));
    }

    private int until(int from) {
        return random.nextInt(3) == 0 ? in(from, 399) : in(from, from > 360 ? 399 : from + 40);
    }

    private int untilOrGood(int from) {
        return random.nextInt(3) == 0 ? -1 : until(from);
    }

    private int[] numbersFor(String name) {
        int from = day();
        switch (name) {
            case "obstacle":
                return new int[] {x(), in(-9, 9), top(), from, untilOrGood(from)};
            case "permit":
                return new int[] {x(), in(-9, 9), top(), from, untilOrGood(from)};
            case "highest":
                return new int[] {x(), in(-9, 9), from, random.nextInt(6) == 0 ? -1 : in(from, from > 380 ? 399 : from + 9)};
            case "aid":
                return new int[] {in(0, 2), in(0, 2)};
            case "check":
                return new int[] {in(0, 2), in(0, 200)};
            case "procedure":
                return new int[] {in(0, 2), in(10, 40)};
            case "pass":
                return new int[] {hasty ? in(1, 60) : in(1, 9)};
            case "raise":
                return new int[] {procedure(), random.nextBoolean() ? in(1, 500) : in(1, 90), from, until(from)};
            case "out":
                return new int[] {in(0, 2), from, until(from)};
            case "close":
                return new int[] {procedure(), from, until(from)};
            case "load": case "read": case "misled":
                return new int[] {in(0, 3)};
            case "end":
                return new int[] {obstacle()};
            case "ofObstacle":
                return new int[] {obstacle(), in(0, 4)};
            case "demanded": case "inForce":
                return new int[] {procedure(), day(), in(0, 3)};
            case "decides": case "chart":
                return new int[] {procedure(), day()};
            case "cancel":
                return new int[] {notice()};
            case "ofNotice":
                return new int[] {notice(), in(0, 5)};
            case "believes":
                return new int[] {in(0, 3), procedure(), day(), in(0, 3)};
            case "many":
                return new int[] {in(0, 19)};
            case "meanDemanded":
                return new int[] {day()};
            case "digest":
                return new int[0];
            default:
                return new int[] {procedure()};
        }
    }
}
