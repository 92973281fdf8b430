/** Promises 4 (setSticker) and 5 (setRing). */
public final class ReelsTest {
    private static final Class<IllegalArgumentException> ARGUMENT = IllegalArgumentException.class;
    private static final Class<IllegalStateException> STATE = IllegalStateException.class;
    private static final Class<IndexOutOfBoundsException> INDEX = IndexOutOfBoundsException.class;
    private static final int[] NO_REELS = {-1, 12, Integer.MIN_VALUE, Integer.MAX_VALUE};

    public static void main(String[] args) {
        setStickerChangesTheSticker();
        setStickerRefuses();
        setRingChangesTheRing();
        setRingRefuses();
        Check.end("ReelsTest");
    }

    private static void reelZeroRuns(ReelConsole x) {
        x.submit(ReelConsole.READ, 1, 9, 0);
        x.pass(1);
    }

    private static void setStickerChangesTheSticker() {
        ReelConsole x = new ReelConsole();
        for (int reel = 0; reel < 12; reel++) {
            int first = reel < 6 ? reel + 1 : 0;
            Check.due("setSticker(" + reel + ", 99)", first, x.setSticker(reel, 99));
            Check.due("the sticker", 99, x.reel(reel, 1));
            Check.due("the label stays", first, x.reel(reel, 0));
            Check.due("setSticker(" + reel + ", 0)", 99, x.setSticker(reel, 0));
            Check.due("the sticker", 0, x.reel(reel, 1));
            Check.due("setSticker(" + reel + ", 1)", 0, x.setSticker(reel, 1));
        }
        Check.undoable("setSticker", 1, r -> { }, r -> r.setSticker(0, 2));
        Check.undoable("setSticker to the same", 0, r -> { }, r -> r.setSticker(11, 0));
        Check.undoable("setSticker of a reel on a drive", 1, ReelsTest::reelZeroRuns, r -> r.setSticker(0, 44));
        ReelConsole busy = Check.after(ReelsTest::reelZeroRuns);
        busy.setSticker(0, 44);
        Check.due("the sticker of a reel on a drive", 44, busy.reel(0, 1));
        Check.due("it stays on the drive", 0, busy.reelOn(0));
    }

    private static void setStickerRefuses() {
        for (int reel : NO_REELS) {
            Check.refused("setSticker(" + reel + ", 1)", INDEX, x -> { }, x -> x.setSticker(reel, 1));
            Check.refused("setSticker(" + reel + ", 100)", INDEX, x -> { }, x -> x.setSticker(reel, 100));
        }
        int[] wrong = {-1, 100, Integer.MIN_VALUE, Integer.MAX_VALUE};
        for (int volume : wrong) {
            Check.refused("setSticker(0, " + volume + ")", ARGUMENT, x -> { }, x -> x.setSticker(0, volume));
            Check.refused("setSticker(11, " + volume + ")", ARGUMENT, ReelsTest::reelZeroRuns,
                    x -> x.setSticker(11, volume));
        }
    }

    private static void setRingChangesTheRing() {
        ReelConsole x = new ReelConsole();
        for (int reel = 0; reel < 12; reel++) {
            Check.due("setRing(" + reel + ", true)", false, x.setRing(reel, true));
            Check.due("the ring", 1, x.reel(reel, 2));
            Check.due("setRing(" + reel + ", true) again", true, x.setRing(reel, true));
            Check.due("setRing(" + reel + ", false)", true, x.setRing(reel, false));
            Check.due("the ring", 0, x.reel(reel, 2));
            Check.due("setRing(" + reel + ", false) again", false, x.setRing(reel, false));
        }
        Check.undoable("setRing", false, r -> { }, r -> r.setRing(0, true));
        Check.undoable("setRing to the same", false, r -> { }, r -> r.setRing(11, false));
        Check.undoable("setRing of a reel that came back", true, r -> {
            r.submit(ReelConsole.WRITE, 1, 1, 0);
            r.pass(2);
        }, r -> r.setRing(0, false));
    }

    private static void setRingRefuses() {
        for (int reel : NO_REELS) {
            Check.refused("setRing(" + reel + ", true)", INDEX, x -> { }, x -> x.setRing(reel, true));
        }
        Check.refused("setRing of a reel on a drive", STATE, ReelsTest::reelZeroRuns, x -> x.setRing(0, true));
        Check.refused("setRing to the same on a drive", STATE, ReelsTest::reelZeroRuns, x -> x.setRing(0, false));
        Check.refused("setRing of a reel on the last drive", STATE, x -> {
            x.submit(ReelConsole.READ, 1, 9, 0);
            x.submit(ReelConsole.READ, 2, 9, 0);
            x.submit(ReelConsole.WRITE, 3, 9, 0);
            x.pass(3);
        }, x -> x.setRing(2, false));
    }
}
