/** Promises 24 (count) and 25 (success). */
public final class CountsTest {
    private static final int READ = ReelConsole.READ, WRITE = ReelConsole.WRITE, CREATE = ReelConsole.CREATE;
    private static final Class<IllegalArgumentException> ARGUMENT = IllegalArgumentException.class;

    public static void main(String[] args) {
        eachCountIsApart();
        countRefuses();
        successIsAQuotient();
        Check.end("CountsTest");
    }

    /** After nine minutes: five mounts, one slip, two reels sent back, six blocks read, six and three written. */
    private static void busy(ReelConsole x) {
        x.nextDay();
        x.nextDay();
        x.set(0, 4);
        x.setSticker(4, 1);
        x.setSticker(0, 0);
        x.submit(READ, 1, 2, 9);
        x.submit(READ, 2, 6, 8);
        x.submit(WRITE, 3, 20, 7);
        x.submit(CREATE, 70, 3, 6);
        x.submit(WRITE, 55, 3, 6);
        x.pass(9);
        x.cancel(4);
        x.submit(READ, 98, 1, 0);
        x.submit(READ, 99, 1, 0);
    }

    private static void eachCountIsApart() {
        int[] due = {2, 9, 5, 1, 2, 6, 9, 0, 3, 1, 2};
        for (int what = 0; what < due.length; what++) {
            int asked = what;
            Check.query("count(" + what + ")", due[what], CountsTest::busy, x -> x.count(asked));
        }
        Check.Steps dropping = x -> {
            for (int job = 0; job < 6; job++) {
                x.submit(WRITE, 1, 20, 0);
            }
            x.pass(99);
            x.pass(4);
        };
        Check.query("count(7)", 3, dropping, x -> x.count(7));
        Check.undoable("a minute that drops a block", 0, dropping, x -> x.pass(1));
        Check.query("a CREATE writes blocks", 5, x -> {
            x.submit(CREATE, 50, 5, 0);
            x.pass(9);
        }, x -> x.count(6));
        Check.query("the blocks of a cancelled job count", 3, x -> {
            x.submit(READ, 1, 5, 0);
            x.pass(4);
            x.cancel(0);
        }, x -> x.count(5));
    }

    private static void countRefuses() {
        int[] wrong = {-1, 11, 100, Integer.MIN_VALUE, Integer.MAX_VALUE};
        for (int what : wrong) {
            Check.refused("count(" + what + ")", ARGUMENT, CountsTest::busy, x -> x.count(what));
        }
    }

    private static void successIsAQuotient() {
        Check.query("success without mounts", 1.0, x -> { }, ReelConsole::success);
        Check.query("success of mounts without a wrong one", 1.0, x -> {
            x.submit(READ, 1, 1, 0);
            x.pass(1);
        }, ReelConsole::success);
        Check.query("success", 3.0 / 5.0, CountsTest::busy, ReelConsole::success);
        Check.query("success of one wrong mount", 0.0, x -> {
            x.setSticker(5, 60);
            x.submit(READ, 60, 1, 0);
            x.pass(1);
        }, ReelConsole::success);
        Check.query("success of two of three", 2.0 / 3.0, x -> {
            x.set(0, 3);
            x.submit(READ, 1, 1, 0);
            x.submit(READ, 2, 1, 0);
            x.submit(READ, 3, 1, 0);
            x.pass(3);
        }, ReelConsole::success);
    }
}
