import java.lang.reflect.InvocationTargetException;
import java.lang.reflect.Method;
import java.util.HashMap;
import java.util.Map;
import java.util.Random;

/** All promises: long runs of calls, the same at each start, on the program and on the plain room beside it. */
public final class RandomRunsTest {
    private static final int RUNS = 4000;
    private static final int CALLS = 512;
    private static final int[] EDGES = {-1, 0, 1, 2, 3, 5, 6, 8, 9, 10, 11, 12, 13, 20, 21, 99, 100, 1000,
        Integer.MIN_VALUE, Integer.MAX_VALUE};

    private final Random random;
    private final ReelConsole program = new ReelConsole();
    private final PlainRoom plain = new PlainRoom();
    private final Map<String, Method> ofProgram;
    private final Map<String, Method> ofPlain;
    private final StringBuilder told = new StringBuilder();
    private int left = CALLS;
    private boolean right = true;

    private RandomRunsTest(int run, Map<String, Method> ofProgram, Map<String, Method> ofPlain) {
        random = new Random(run);
        this.ofProgram = ofProgram;
        this.ofPlain = ofPlain;
    }

    public static void main(String[] args) {
        Map<String, Method> ofProgram = methods(ReelConsole.class);
        Map<String, Method> ofPlain = methods(PlainRoom.class);
        int wrong = 0;
        for (int run = 0; run < RUNS && wrong < 5; run++) {
            RandomRunsTest test = new RandomRunsTest(run, ofProgram, ofPlain);
            while (test.left > 0 && test.right) {
                test.step(run % 4);
            }
            if (!test.right) {
                wrong++;
                System.out.println("run " + run + ":\n" + test.told);
            }
        }
        Check.due("runs that went wrong", 0, wrong);
        Check.end("RandomRunsTest");
    }

    private static Map<String, Method> methods(Class<?> type) {
        Map<String, Method> methods = new HashMap<>();
        for (Method method : type.getDeclaredMethods()) {
            if (java.lang.reflect.Modifier.isPublic(method.getModifiers())) {
                methods.put(method.getName(), method);
            }
        }
        return methods;
    }

    private static String answer(Method method, Object room, Object[] arguments) {
        try {
            return String.valueOf(method.invoke(room, arguments));
        } catch (InvocationTargetException e) {
            return "throws." + e.getCause().getClass().getSimpleName();
        } catch (IllegalAccessException e) {
            return "cannot be called";
        }
    }

    private void both(String name, Object... arguments) {
        if (left <= 0 || !right) {
            return;
        }
        left--;
        String due = answer(ofPlain.get(name), plain, arguments);
        String got = answer(ofProgram.get(name), program, arguments);
        told.append(name).append(java.util.Arrays.toString(arguments)).append(" -> ").append(got);
        if (!due.equals(got)) {
            told.append(", due is ").append(due);
            right = false;
        }
        told.append('\n');
    }

    private int below(int bound) {
        return random.nextInt(bound);
    }

    private int edge() {
        return EDGES[below(EDGES.length)];
    }

    /** Few volumes in most runs, so that jobs and reels meet; all of them in the others. */
    private int volume(int shape) {
        return shape == 3 ? 1 + below(99) : 1 + below(8);
    }

    private int minutes() {
        return below(3) == 0 ? 1 + below(20) : 1 + below(4);
    }

    private void step(int shape) {
        change(shape);
        for (int asked = below(5); asked > 0; asked--) {
            ask();
        }
    }

    private void change(int shape) {
        switch (below(20)) {
            case 0: case 1: case 2:
                both("submit", below(3), volume(shape), minutes(), below(10));
                break;
            case 3:
                both("submit", edge(), edge(), edge(), edge());
                break;
            case 4:
                both("cancel", below(10) == 0 ? edge() : below(13));
                break;
            case 5: case 6:
                both("setSticker", below(12), below(3) == 0 ? 0 : volume(shape));
                break;
            case 7:
                both("setSticker", edge(), edge());
                break;
            case 8:
                both("setRing", below(12), random.nextBoolean());
                break;
            case 9:
                both("setRing", edge(), random.nextBoolean());
                break;
            case 10: case 11: case 12:
                both("pass", shape == 1 ? 1 + below(99) : 1 + below(5));
                break;
            case 13:
                both("pass", edge());
                break;
            case 14:
                both("nextDay");
                break;
            case 15:
                both("set", 0, below(4));
                both("set", 1, below(4));
                break;
            case 16:
                both("set", below(3) == 0 ? edge() : below(2), edge());
                break;
            case 17:
                both("undo");
                break;
            default:
                runAText(shape);
        }
    }

    private void runAText(int shape) {
        both("clearText");
        String text = text(shape);
        for (int at = 0; at < text.length(); at++) {
            both("appendText", (int) text.charAt(at));
        }
        if (below(8) == 0) {
            both("appendText", below(2) == 0 ? edge() : 28 + below(104));
        }
        both("errorPosition");
        both("runText");
        both("textLength");
    }

    private String text(int shape) {
        StringBuilder text = new StringBuilder();
        int commands = below(20) == 0 ? 30 : 1 + below(4);
        for (int number = 0; number < commands; number++) {
            text.append(number == 0 ? "" : ";").append(command(shape));
        }
        if (below(5) == 0 && text.length() > 0) {
            text.setCharAt(below(text.length()), "rwctd*!;0123 9"
                    .charAt(below(14)));
        }
        if (below(12) == 0) {
            text.setLength(below(text.length()));
        }
        return text.toString();
    }

    private String command(int shape) {
        switch (below(4)) {
            case 0:
                return "d";
            case 1:
                return "t" + (1 + below(below(4) == 0 ? 99 : 9));
            default:
                return "rwc".charAt(below(3)) + "" + volume(shape) + "*" + minutes()
                        + (below(2) == 0 ? "" : "!" + below(10));
        }
    }

    private void ask() {
        int job = below(10) == 0 ? edge() : below(12);
        int reel = below(10) == 0 ? edge() : below(12);
        switch (below(14)) {
            case 0: both("reel", reel, below(10) == 0 ? edge() : below(7)); break;
            case 1: both("reelOn", below(6) == 0 ? edge() : below(3)); break;
            case 2: both("scratchReels"); break;
            case 3: both("jobs"); break;
            case 4: both("job", job, below(10) == 0 ? edge() : below(8)); break;
            case 5: both("isStuck", job); break;
            case 6: both("verdict", job, reel); break;
            case 7: both("nextJob"); break;
            case 8: both("nextReel"); break;
            case 9: both("minutesToDone", job); break;
            case 10: both("count", below(10) == 0 ? edge() : below(11)); break;
            case 11: both("success"); break;
            case 12: both("savedStates"); break;
            default: both("errorPosition");
        }
    }
}
