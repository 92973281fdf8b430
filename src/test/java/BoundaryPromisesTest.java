/** The boundary cases that the promises 1 to 27 of the document name, a method for each promise. */
public final class BoundaryPromisesTest {
    private static final int READ = ReelConsole.READ, WRITE = ReelConsole.WRITE, CREATE = ReelConsole.CREATE;
    private static final int NONE = ReelConsole.NONE;
    private static final int MIN = Integer.MIN_VALUE, MAX = Integer.MAX_VALUE;
    private static final Class<IllegalArgumentException> ARGUMENT = IllegalArgumentException.class;
    private static final Class<IllegalStateException> STATE = IllegalStateException.class;
    private static final Class<IndexOutOfBoundsException> INDEX = IndexOutOfBoundsException.class;
    private static final Check.Steps NOTHING = x -> { };

    public static void main(String[] args) {
        promise1NewObject();
        promise2SubmitRanges();
        promise2SubmitStates();
        promise3Cancel();
        promise4SetSticker();
        promise5SetRing();
        promise6Pass();
        promise7NextDay();
        promise8Set();
        promise9AppendText();
        promise10ClearText();
        promise11ErrorPosition();
        promise12RunText();
        promise12RunTextIsOneCall();
        promise13Undo();
        promise13UndoRestores();
        promise13UndoRestoresAMount();
        promise14Reel();
        promise15ReelOn();
        promise16ScratchReels();
        promise17Jobs();
        promise18Job();
        promise19IsStuck();
        promise20Verdict();
        promise21NextJob();
        promise22NextReel();
        promise23MinutesToDone();
        promise23TheLongestWay();
        promise24Count();
        promise25Success();
        promise26SavedStates();
        promise27TextLength();
        Check.end("BoundaryPromisesTest");
    }

    /** Twelve jobs of different volumes; those of the volumes above 6 are stuck. */
    private static void twelveJobs(ReelConsole x) {
        for (int job = 0; job < 12; job++) {
            x.submit(READ, job + 1, 1 + job, 0);
        }
    }

    private static void threeRun(ReelConsole x) {
        x.submit(READ, 1, 20, 0);
        x.submit(READ, 2, 20, 0);
        x.submit(WRITE, 3, 20, 0);
        x.pass(3);
    }

    private static void sixDays(ReelConsole x) {
        for (int day = 0; day < 6; day++) {
            x.nextDay();
        }
    }

    private static void promise1NewObject() {
        Check.sentence("Creates a tape room without jobs.");
        Check.query("jobs", 0, NOTHING, ReelConsole::jobs);
        Check.refused("job 0", INDEX, NOTHING, x -> x.job(0, 0));
        Check.refused("undo", STATE, NOTHING, ReelConsole::undo);
        Check.refused("runText", STATE, NOTHING, ReelConsole::runText);
        Check.due("a minute in it", 0, new ReelConsole().pass(1));
    }

    private static void promise2SubmitRanges() {
        int[] kinds = {READ, WRITE, CREATE};
        int[] noKinds = {-1, 3, MIN, MAX};
        int[] volumes = {1, 2, 98, 99};
        int[] noVolumes = {0, -1, 100, MIN, MAX};
        int[] lengths = {1, 2, 19, 20};
        int[] noLengths = {0, -1, 21, MIN, MAX};
        int[] priorities = {0, 1, 8, 9};
        int[] noPriorities = {-1, 10, MIN, MAX};
        Check.sentence("kind: READ, WRITE or CREATE");
        for (int kind : kinds) {
            Check.undoable("kind " + kind, 0, NOTHING, x -> x.submit(kind, 50, 1, 0));
        }
        for (int kind : noKinds) {
            Check.refused("kind " + kind, ARGUMENT, NOTHING, x -> x.submit(kind, 50, 1, 0));
        }
        Check.sentence("volume: 1 to 99");
        for (int volume : volumes) {
            Check.undoable("volume " + volume, 0, NOTHING, x -> x.submit(READ, volume, 1, 0));
            Check.query("volume " + volume, volume, x -> x.submit(WRITE, volume, 1, 0), x -> x.job(0, 1));
        }
        for (int volume : noVolumes) {
            Check.refused("volume " + volume, ARGUMENT, NOTHING, x -> x.submit(READ, volume, 1, 0));
            Check.refused("volume " + volume, ARGUMENT, NOTHING, x -> x.submit(CREATE, volume, 1, 0));
        }
        Check.sentence("minutes: 1 to 20");
        for (int length : lengths) {
            Check.undoable("minutes " + length, 0, NOTHING, x -> x.submit(CREATE, 50, length, 0));
            Check.query("minutes " + length, length, x -> x.submit(READ, 50, length, 0), x -> x.job(0, 2));
        }
        for (int length : noLengths) {
            Check.refused("minutes " + length, ARGUMENT, NOTHING, x -> x.submit(WRITE, 50, length, 0));
        }
        Check.sentence("priority: 0 to 9");
        for (int priority : priorities) {
            Check.undoable("priority " + priority, 0, NOTHING, x -> x.submit(CREATE, 50, 1, priority));
            Check.query("priority " + priority, priority, x -> x.submit(READ, 50, 1, priority), x -> x.job(0, 3));
        }
        for (int priority : noPriorities) {
            Check.refused("priority " + priority, ARGUMENT, NOTHING, x -> x.submit(WRITE, 50, 1, priority));
        }
    }

    private static void promise2SubmitStates() {
        Check.sentence("Throws IllegalStateException if there are 12 jobs");
        Check.undoable("eleven jobs", 11, x -> {
            twelveJobs(x);
            x.undo();
        }, x -> x.submit(WRITE, 1, 1, 0));
        Check.refused("twelve jobs", STATE, BoundaryPromisesTest::twelveJobs, x -> x.submit(READ, 1, 1, 0));
        Check.refused("twelve jobs, and a CREATE", STATE, BoundaryPromisesTest::twelveJobs,
                x -> x.submit(CREATE, 50, 1, 0));
        Check.refused("twelve jobs, half of them done", STATE, x -> {
            twelveJobs(x);
            x.pass(99);
        }, x -> x.submit(READ, 1, 1, 0));
        Check.sentence("if the kind is CREATE, and a reel that is not scratch has this label");
        Check.refused("the first label", STATE, NOTHING, x -> x.submit(CREATE, 1, 1, 0));
        Check.refused("the last label", STATE, NOTHING, x -> x.submit(CREATE, 6, 1, 0));
        Check.undoable("the label behind the last", 0, NOTHING, x -> x.submit(CREATE, 7, 1, 0));
        Check.undoable("the last label, expired", 0, ReelConsole::nextDay, x -> x.submit(CREATE, 6, 1, 0));
        Check.undoable("a WRITE of the last label", 0, NOTHING, x -> x.submit(WRITE, 6, 1, 0));
        Check.refused("a label on a drive", STATE, x -> {
            x.submit(READ, 6, 9, 0);
            x.pass(1);
        }, x -> x.submit(CREATE, 6, 1, 0));
        Check.refused("a label on reel 11", STATE, x -> {
            for (int reel = 6; reel < 11; reel++) {
                x.setSticker(reel, 90);
            }
            x.submit(CREATE, 99, 1, 0);
            x.pass(2);
        }, x -> x.submit(CREATE, 99, 1, 0));
        Check.sentence("another job of the kind CREATE with this volume waits");
        Check.Steps waits = x -> x.submit(CREATE, 99, 1, 0);
        Check.refused("it waits", STATE, waits, x -> x.submit(CREATE, 99, 20, 9));
        Check.undoable("a READ beside it", 1, waits, x -> x.submit(READ, 99, 1, 0));
        Check.undoable("another volume beside it", 1, waits, x -> x.submit(CREATE, 98, 1, 0));
        Check.refused("it waits and is stuck", STATE, x -> {
            for (int reel = 6; reel < 12; reel++) {
                x.setSticker(reel, 90);
            }
            waits.on(x);
        }, x -> x.submit(CREATE, 99, 1, 0));
        Check.undoable("it is cancelled", 1, x -> {
            waits.on(x);
            x.cancel(0);
        }, x -> x.submit(CREATE, 99, 1, 0));
        Check.refused("the eleventh of eleven", STATE, x -> {
            for (int job = 0; job < 10; job++) {
                x.submit(READ, 1, 1, 0);
            }
            waits.on(x);
        }, x -> x.submit(CREATE, 99, 1, 0));
    }

    private static void promise3Cancel() {
        Check.sentence("Throws IndexOutOfBoundsException if there is no such job");
        int[] noJobs = {-1, 12, 13, MIN, MAX};
        for (int job : noJobs) {
            Check.refused("job " + job + " of twelve", INDEX, BoundaryPromisesTest::twelveJobs, x -> x.cancel(job));
        }
        Check.refused("job 3 of three", INDEX, BoundaryPromisesTest::threeRun, x -> x.cancel(3));
        Check.refused("job 0 of none", INDEX, NOTHING, x -> x.cancel(0));
        Check.undoable("job 0 of twelve", 0, BoundaryPromisesTest::twelveJobs, x -> x.cancel(0));
        Check.undoable("job 11 of twelve, which is stuck", 0, BoundaryPromisesTest::twelveJobs, x -> x.cancel(11));
        Check.sentence("Throws IllegalStateException if the job neither waits nor runs");
        Check.refused("done", STATE, x -> {
            twelveJobs(x);
            x.pass(2);
        }, x -> x.cancel(0));
        Check.refused("cancelled", STATE, x -> {
            threeRun(x);
            x.cancel(2);
        }, x -> x.cancel(2));
        Check.sentence("Returns the number of blocks that it has done.");
        Check.undoable("just served", 0, BoundaryPromisesTest::threeRun, x -> x.cancel(2));
        Check.undoable("in its last minute", 19, x -> {
            threeRun(x);
            x.pass(17);
        }, x -> x.cancel(0));
        Check.undoable("after a reel was sent back for it", 0, x -> {
            x.setSticker(8, 60);
            x.submit(READ, 60, 1, 0);
            x.pass(1);
        }, x -> x.cancel(0));
        Check.sentence("The reel of a running job is put back on the shelf.");
        for (int job = 0; job < 3; job++) {
            ReelConsole x = Check.after(BoundaryPromisesTest::threeRun);
            x.cancel(job);
            for (int drive = 0; drive < 3; drive++) {
                int due = drive == job ? NONE : drive;
                Check.due("drive " + drive + " after cancel(" + job + ")", due, x.reelOn(drive));
            }
            Check.due("the ring stays", job == 2 ? 1 : 0, x.reel(job, 2));
            Check.due("the job has no reel", NONE, x.job(job, 6));
        }
    }

    private static void promise4SetSticker() {
        Check.sentence("Throws IndexOutOfBoundsException if there is no such reel");
        int[] noReels = {-1, 12, MIN, MAX};
        for (int reel : noReels) {
            Check.refused("reel " + reel, INDEX, BoundaryPromisesTest::sixDays, x -> x.setSticker(reel, 0));
        }
        Check.undoable("reel 0", 1, NOTHING, x -> x.setSticker(0, 99));
        Check.undoable("reel 11", 0, NOTHING, x -> x.setSticker(11, 99));
        Check.sentence("Throws IllegalArgumentException if the volume is out of range");
        int[] noVolumes = {-1, 100, MIN, MAX};
        for (int volume : noVolumes) {
            Check.refused("volume " + volume, ARGUMENT, BoundaryPromisesTest::sixDays, x -> x.setSticker(11, volume));
        }
        int[] volumes = {0, 1, 98, 99};
        for (int volume : volumes) {
            Check.undoable("volume " + volume, 1, NOTHING, x -> x.setSticker(0, volume));
            Check.query("volume " + volume, volume, x -> x.setSticker(0, volume), x -> x.reel(0, 1));
            Check.query("the label beside " + volume, 1, x -> x.setSticker(0, volume), x -> x.reel(0, 0));
        }
        Check.undoable("from the highest to blank", 99, x -> x.setSticker(0, 99), x -> x.setSticker(0, 0));
        Check.undoable("from blank to the lowest", 0, x -> x.setSticker(0, 0), x -> x.setSticker(0, 1));
        Check.undoable("a reel on the last drive", 3, BoundaryPromisesTest::threeRun, x -> x.setSticker(2, 0));
    }

    private static void promise5SetRing() {
        Check.sentence("Throws IndexOutOfBoundsException if there is no such reel");
        int[] noReels = {-1, 12, MIN, MAX};
        for (int reel : noReels) {
            Check.refused("reel " + reel, INDEX, BoundaryPromisesTest::threeRun, x -> x.setRing(reel, true));
            Check.refused("reel " + reel, INDEX, BoundaryPromisesTest::threeRun, x -> x.setRing(reel, false));
        }
        Check.undoable("reel 0", false, NOTHING, x -> x.setRing(0, true));
        Check.undoable("reel 11", false, NOTHING, x -> x.setRing(11, true));
        Check.undoable("reel 11 again", true, x -> x.setRing(11, true), x -> x.setRing(11, true));
        Check.undoable("reel 11 out", true, x -> x.setRing(11, true), x -> x.setRing(11, false));
        Check.sentence("Throws IllegalStateException if the reel is on a drive");
        for (int drive = 0; drive < 3; drive++) {
            int reel = drive;
            Check.refused("in on drive " + drive, STATE, BoundaryPromisesTest::threeRun, x -> x.setRing(reel, true));
            Check.refused("out on drive " + drive, STATE, BoundaryPromisesTest::threeRun, x -> x.setRing(reel, false));
            Check.undoable("back from drive " + drive, drive == 2, x -> {
                threeRun(x);
                x.cancel(reel);
            }, x -> x.setRing(reel, true));
        }
        Check.undoable("beside the reels on drives", false, BoundaryPromisesTest::threeRun, x -> x.setRing(3, true));
    }

    private static void promise6Pass() {
        Check.sentence("Throws IllegalArgumentException if the number is out of range");
        int[] wrong = {0, -1, 100, MIN, MAX};
        for (int minutes : wrong) {
            Check.refused("pass(" + minutes + ")", ARGUMENT, BoundaryPromisesTest::threeRun, x -> x.pass(minutes));
        }
        int[] right = {1, 2, 98, 99};
        for (int minutes : right) {
            Check.undoable("pass(" + minutes + ")", 0, NOTHING, x -> x.pass(minutes));
            Check.query("minutes after pass(" + minutes + ")", minutes, x -> x.pass(minutes), x -> x.count(1));
        }
        Check.sentence("Returns the number of jobs that become done in them.");
        Check.undoable("none, one minute too few", 0, BoundaryPromisesTest::threeRun, x -> x.pass(17));
        Check.undoable("the first", 1, BoundaryPromisesTest::threeRun, x -> x.pass(18));
        Check.undoable("all three", 3, BoundaryPromisesTest::threeRun, x -> x.pass(20));
        Check.undoable("all twelve", 12, x -> {
            for (int job = 0; job < 12; job++) {
                x.submit(READ, 1 + job % 6, 1, 0);
            }
        }, x -> x.pass(99));
        Check.undoable("those that were done before do not count", 0, x -> {
            threeRun(x);
            x.pass(20);
        }, x -> x.pass(99));
        Check.undoable("a cancelled one does not count", 2, x -> {
            threeRun(x);
            x.cancel(1);
        }, x -> x.pass(99));
        Check.sentence("Undoable, as one call.");
        ReelConsole x = Check.after(r -> {
            twelveJobs(r);
            r.undo();
            r.pass(99);
        });
        Check.due("saved states", 6, x.savedStates());
        x.undo();
        Check.due("minutes after one undo", 0, x.count(1));
        Check.due("jobs that are done after one undo", 0, x.count(10));
    }

    private static void promise7NextDay() {
        Check.sentence("Throws IllegalStateException if the day is 999");
        Check.undoable("on day 0", 1, NOTHING, ReelConsole::nextDay);
        Check.undoable("on day 998", 999, x -> Check.toDay(x, 998), ReelConsole::nextDay);
        Check.refused("on day 999", STATE, x -> Check.toDay(x, 999), ReelConsole::nextDay);
        Check.undoable("on day 999, one day undone", 999, x -> {
            Check.toDay(x, 999);
            x.undo();
        }, ReelConsole::nextDay);
    }

    private static void promise8Set() {
        Check.sentence("Throws IndexOutOfBoundsException if there is no such setting");
        int[] noSettings = {-1, 2, MIN, MAX};
        for (int setting : noSettings) {
            Check.refused("setting " + setting, INDEX, BoundaryPromisesTest::sixDays, x -> x.set(setting, 5));
        }
        Check.sentence("Throws IllegalArgumentException if the value is out of the range of the setting");
        int[] noCares = {-1, 10, 11, 99, MIN, MAX};
        for (int care : noCares) {
            Check.refused("CARE " + care, ARGUMENT, BoundaryPromisesTest::sixDays, x -> x.set(0, care));
        }
        int[] noKeeps = {-1, 100, MIN, MAX};
        for (int keep : noKeeps) {
            Check.refused("KEEP " + keep, ARGUMENT, BoundaryPromisesTest::sixDays, x -> x.set(1, keep));
        }
        Check.sentence("Returns the previous value.");
        for (int care = 0; care <= 9; care++) {
            int value = care;
            Check.undoable("CARE before " + care, 0, NOTHING, x -> x.set(0, value));
            Check.undoable("CARE after " + care, care, x -> x.set(0, value), x -> x.set(0, 9));
        }
        int[] keeps = {0, 1, 9, 10, 11, 98, 99};
        for (int keep : keeps) {
            Check.undoable("KEEP before " + keep, 10, NOTHING, x -> x.set(1, keep));
            Check.undoable("KEEP after " + keep, keep, x -> x.set(1, keep), x -> x.set(1, 99));
        }
        Check.undoable("KEEP beside CARE", 10, x -> x.set(0, 9), x -> x.set(1, 0));
        Check.undoable("CARE beside KEEP", 0, x -> x.set(1, 99), x -> x.set(0, 9));
    }

    private static void promise9AppendText() {
        Check.sentence("Throws IllegalArgumentException if the character code is out of range");
        int[] wrong = {31, 127, 0, -1, 10, 128, 255, 256 + 'd', 65536 + 'd', MIN, MAX};
        for (int character : wrong) {
            Check.refused("character " + character, ARGUMENT, NOTHING, x -> x.appendText(character));
            Check.refused("character " + character + " behind 80", ARGUMENT, x -> Check.type(x, "~".repeat(80)),
                    x -> x.appendText(character));
        }
        ReelConsole x = new ReelConsole();
        for (int character = 32; character <= 126; character++) {
            Check.due("character " + character, 1, x.appendText(character));
            Check.due("a text of one character", 1, x.clearText());
        }
        Check.sentence("Throws IllegalStateException if the text has 80 characters");
        Check.due("behind 79", 80, Check.after(r -> Check.type(r, " ".repeat(79))).appendText(' '));
        Check.refused("behind 80", STATE, r -> Check.type(r, " ".repeat(80)), r -> r.appendText(' '));
        Check.refused("behind a valid text of 80", STATE, r -> Check.type(r, "d;".repeat(39) + "t9"),
                r -> r.appendText('9'));
        Check.due("a refused character is not appended", NONE, Check.after(r -> {
            Check.type(r, "d;".repeat(39) + "t9");
            Check.answer(r, s -> s.appendText('x'));
        }).errorPosition());
    }

    private static void promise10ClearText() {
        Check.sentence("Returns the length of the text before the call.");
        int[] lengths = {0, 1, 79, 80};
        for (int length : lengths) {
            ReelConsole x = Check.after(r -> Check.type(r, "d".repeat(length)));
            Check.due("length " + length, length, x.clearText());
            Check.due("after length " + length, 0, x.textLength());
            Check.due("again", 0, x.clearText());
            Check.due("a character after it", 1, x.appendText('d'));
            Check.due("is a text of its own", NONE, x.errorPosition());
        }
        Check.due("it saves no state", 6, Check.after(x -> {
            sixDays(x);
            Check.type(x, "d");
            x.clearText();
        }).savedStates());
    }

    private static void promise11ErrorPosition() {
        Check.sentence("Returns NONE if the text is valid, otherwise its error position.");
        Check.query("the empty text", 0, NOTHING, ReelConsole::errorPosition);
        Check.query("a wrong first character", 0, x -> Check.type(x, "x"), ReelConsole::errorPosition);
        Check.query("the shortest valid text", NONE, x -> Check.type(x, "d"), ReelConsole::errorPosition);
        Check.query("a valid text of 80", NONE, x -> Check.type(x, "d;".repeat(39) + "t9"), ReelConsole::errorPosition);
        Check.query("80 characters that end too early", 80, x -> Check.type(x, "d;".repeat(40)),
                ReelConsole::errorPosition);
        Check.query("a wrong 80th character", 79, x -> Check.type(x, "d;".repeat(39) + "dd"),
                ReelConsole::errorPosition);
        Check.query("a text that would throw is valid", NONE, x -> Check.type(x, "c1*1;c1*1"),
                ReelConsole::errorPosition);
        Check.query("the first of two wrong places", 1, x -> Check.type(x, "dx;x"), ReelConsole::errorPosition);
    }

    private static void promise12RunText() {
        Check.sentence("Throws IllegalStateException if the text is not valid");
        String[] wrong = {
            "", ";", "d;", "t0", "t100", "r100*1", "r1*21", "r1*1!", "r1*1!10", "d;d;d;x", "d;".repeat(40),
        };
        for (String text : wrong) {
            Check.refused("\"" + text + "\"", STATE, x -> {
                threeRun(x);
                Check.type(x, text);
            }, ReelConsole::runText);
        }
        Check.sentence("Execution ends before the first command for which the method would throw an exception.");
        runs("c1*1", 0, 0, 0, 0);
        runs("c7*1;c7*1;d;t1", 1, 1, 0, 0);
        runs("t5;d;c6*1;c6*1;t9;d", 3, 1, 1, 5);
        runs("d;d;d;d;c6*1;t99;t1;c6*1", 7, 1, 4, 100);
        runs("r1*1;r1*1;r1*1;r1*1;r1*1;r1*1;r1*1;r1*1;r1*1;r1*1;r1*1;r1*1;t1;d", 14, 12, 1, 1);
        runs("r1*1;r1*1;r1*1;r1*1;r1*1;r1*1;r1*1;r1*1;r1*1;r1*1;r1*1;r1*1;t1;r1*1;d", 13, 12, 0, 1);
        ReelConsole last = Check.after(x -> {
            Check.toDay(x, 998);
            Check.type(x, "d;t1;d;t1");
        });
        Check.due("a day after the last", 2, last.runText());
        Check.due("the day", 999, last.count(0));
        Check.due("minutes", 1, last.count(1));
        Check.due("once more", 0, last.runText());
        Check.sentence("Returns the number of commands that are executed.");
        runs("d", 1, 0, 1, 0);
        runs("d;".repeat(39) + "d", 40, 0, 40, 0);
        runs("d;".repeat(39) + "t9", 40, 0, 39, 9);
        runs("r99*20!9", 1, 1, 0, 0);
        runs("c99*1!0;w1*20;r1*1!9", 3, 3, 0, 0);
        ReelConsole kinds = Check.after(x -> {
            Check.type(x, "c99*1!9;w1*20;r50*2!0");
            x.runText();
        });
        int[][] due = {{CREATE, 99, 1, 9}, {WRITE, 1, 20, 0}, {READ, 50, 2, 0}};
        for (int job = 0; job < due.length; job++) {
            for (int part = 0; part < 4; part++) {
                Check.due("job(" + job + ", " + part + ")", due[job][part], kinds.job(job, part));
            }
        }
    }

    private static void runs(String text, int commands, int jobs, int day, int minutes) {
        ReelConsole x = Check.after(r -> Check.type(r, text));
        Check.due("runText() of \"" + text + "\"", commands, x.runText());
        Check.due("jobs after \"" + text + "\"", jobs, x.jobs());
        Check.due("the day after \"" + text + "\"", day, x.count(0));
        Check.due("minutes after \"" + text + "\"", minutes, x.count(1));
        Check.due("saved states after \"" + text + "\"", 1, x.savedStates());
        Check.due("the text stays in the buffer", text.length(), x.textLength());
    }

    private static void promise12RunTextIsOneCall() {
        Check.sentence("Undoable, as one call, also if no command is executed.");
        Check.undoable("forty commands", 40, x -> Check.type(x, "d;".repeat(39) + "d"), ReelConsole::runText);
        Check.undoable("no command", 0, x -> Check.type(x, "c1*1"), ReelConsole::runText);
        Check.undoable("no command in a full room", 0, x -> {
            twelveJobs(x);
            Check.type(x, "r1*1;d");
        }, ReelConsole::runText);
        Check.undoable("no command on the last day", 0, x -> {
            Check.toDay(x, 999);
            Check.type(x, "d;t1");
        }, ReelConsole::runText);
        Check.undoable("two of four commands", 2, x -> Check.type(x, "t9;w3*1;c3*1;d"), ReelConsole::runText);
    }

    private static void promise13Undo() {
        Check.sentence("Throws IllegalStateException if there is no saved state");
        Check.refused("a new object", STATE, NOTHING, ReelConsole::undo);
        Check.refused("all undone", STATE, x -> {
            sixDays(x);
            for (int left = 0; left < 6; left++) {
                x.undo();
            }
        }, ReelConsole::undo);
        Check.refused("only refused calls", STATE, x -> {
            Check.answer(x, r -> r.pass(0));
            Check.answer(x, r -> r.cancel(0));
        }, ReelConsole::undo);
        Check.refused("only calls that are not undoable", STATE, x -> {
            x.appendText('d');
            x.errorPosition();
            x.clearText();
        }, ReelConsole::undo);
        Check.sentence("Returns the number of saved states that remain.");
        ReelConsole x = Check.after(BoundaryPromisesTest::sixDays);
        for (int left = 5; left >= 0; left--) {
            Check.due("undo", left, x.undo());
            Check.due("savedStates", left, x.savedStates());
            Check.due("the day", left, x.count(0));
        }
        Check.sentence("Restores the state that was saved last, and removes it from the saved states.");
        ReelConsole round = new ReelConsole();
        for (int turn = 0; turn < 15; turn++) {
            round.nextDay();
            round.nextDay();
            round.undo();
        }
        Check.due("the day after fifteen turns", 15, round.count(0));
        for (int left = 5; left >= 1; left--) {
            round.undo();
        }
        Check.due("six turns are kept, the last one is undone", 10, round.count(0));
    }

    private static void promise13UndoRestores() {
        Check.sentence("Restores the state that was saved last");
        String untouched = Check.room(new ReelConsole());
        Check.Steps[] changes = {
            r -> {
                r.submit(WRITE, 1, 1, 9);
                r.submit(READ, 60, 9, 9);
            },
            r -> r.submit(CREATE, 50, 9, 9),
            r -> r.setSticker(0, 99),
            r -> r.setRing(11, true),
            r -> r.nextDay(),
            r -> r.pass(99),
        };
        for (Check.Steps change : changes) {
            ReelConsole changed = Check.after(change);
            while (changed.savedStates() > 0) {
                changed.undo();
            }
            Check.due("all undone", untouched, Check.room(changed));
        }
        Check.due("the settings undone", "0 10", Check.answer(Check.after(r -> {
            r.set(0, 9);
            r.set(1, 99);
            r.undo();
            r.undo();
        }), r -> r.set(0, 0) + " " + r.set(1, 0)));
    }

    private static void promise13UndoRestoresAMount() {
        ReelConsole minute = Check.after(r -> {
            r.set(0, 1);
            r.submit(CREATE, 50, 9, 9);
            r.setRing(7, true);
            r.setSticker(1, 60);
            r.pass(1);
        });
        Check.due("a mount is undone", true, minute.count(2) == 1 && minute.undo() == 4 && minute.count(2) == 0);
        Check.due("its slip", 0, minute.count(3));
        Check.due("its label", 0, minute.reel(7, 0));
        Check.due("its expiry day", 0, minute.reel(7, 3));
        Check.due("its drive", NONE, minute.reelOn(0));
        minute.setRing(7, false);
        minute.pass(1);
        Check.due("a reel was sent back", 1, minute.job(0, 7));
        minute.undo();
        Check.due("it is undone", 0, minute.job(0, 7));
        Check.due("in the count too", 0, minute.count(4));
        Check.query("the number of an undone job is new again", "0 0 -1 0", r -> {
            r.setSticker(8, 60);
            r.submit(READ, 60, 1, 0);
            r.pass(1);
            r.undo();
            r.undo();
            r.submit(WRITE, 1, 1, 0);
        }, r -> r.job(0, 4) + " " + r.job(0, 5) + " " + r.job(0, 6) + " " + r.job(0, 7));
    }

    private static void promise14Reel() {
        Check.sentence("Throws IndexOutOfBoundsException if there is no such reel");
        int[] noReels = {-1, 12, MIN, MAX};
        for (int reel : noReels) {
            for (int part = 0; part <= 6; part++) {
                int asked = part;
                Check.refused("reel(" + reel + ", " + part + ")", INDEX, NOTHING, x -> x.reel(reel, asked));
            }
        }
        Check.sentence("Throws IllegalArgumentException if part is not 0 to 6");
        int[] noParts = {-1, 7, 8, MIN, MAX};
        for (int part : noParts) {
            Check.refused("reel(0, " + part + ")", ARGUMENT, NOTHING, x -> x.reel(0, part));
            Check.refused("reel(11, " + part + ")", ARGUMENT, NOTHING, x -> x.reel(11, part));
        }
        Check.sentence("5: its drive, NONE if it is on the shelf");
        ReelConsole x = Check.after(BoundaryPromisesTest::threeRun);
        for (int reel = 0; reel < 12; reel++) {
            Check.due("reel " + reel, reel < 3 ? reel : NONE, x.reel(reel, 5));
        }
    }

    private static void promise15ReelOn() {
        Check.sentence("Throws IndexOutOfBoundsException if there is no such drive");
        int[] noDrives = {-1, 3, MIN, MAX};
        for (int drive : noDrives) {
            Check.refused("drive " + drive, INDEX, NOTHING, x -> x.reelOn(drive));
            Check.refused("drive " + drive + ", all full", INDEX, BoundaryPromisesTest::threeRun, x -> x.reelOn(drive));
        }
        Check.sentence("Returns the reel; NONE if the drive is empty.");
        for (int drive = 0; drive < 3; drive++) {
            int asked = drive;
            Check.query("an empty drive", NONE, NOTHING, x -> x.reelOn(asked));
            Check.query("a full drive", drive, BoundaryPromisesTest::threeRun, x -> x.reelOn(asked));
            Check.query("reel 11 on drive " + drive, drive == 0 ? 11 : NONE, x -> {
                x.setSticker(11, 0);
                for (int reel = 6; reel < 11; reel++) {
                    x.setSticker(reel, 90);
                }
                x.submit(CREATE, 50, 2, 0);
                x.pass(1);
            }, x -> x.reelOn(asked));
        }
    }

    private static void promise16ScratchReels() {
        Check.sentence("Returns the number of reels that are scratch.");
        Check.query("day 0", 6, NOTHING, ReelConsole::scratchReels);
        Check.query("all on day 1", 12, ReelConsole::nextDay, ReelConsole::scratchReels);
        Check.query("none: a label on each reel", 0, x -> {
            for (int volume = 50; volume < 56; volume++) {
                x.submit(CREATE, volume, 1, 0);
            }
            x.pass(99);
        }, ReelConsole::scratchReels);
        Check.query("a reel on a drive counts", 12, x -> {
            threeRun(x);
            x.nextDay();
        }, ReelConsole::scratchReels);
    }

    private static void promise17Jobs() {
        Check.sentence("Returns the number of jobs.");
        Check.query("none", 0, NOTHING, ReelConsole::jobs);
        Check.query("twelve", 12, BoundaryPromisesTest::twelveJobs, ReelConsole::jobs);
        Check.query("twelve, a thirteenth refused", 12, x -> {
            twelveJobs(x);
            Check.answer(x, r -> r.submit(READ, 1, 1, 0));
        }, ReelConsole::jobs);
        Check.query("done and cancelled ones count", 12, x -> {
            twelveJobs(x);
            x.pass(99);
            x.cancel(11);
        }, ReelConsole::jobs);
    }

    private static void promise18Job() {
        Check.sentence("Throws IndexOutOfBoundsException if there is no such job");
        int[] noJobs = {-1, 12, MIN, MAX};
        for (int job : noJobs) {
            for (int part = 0; part <= 7; part++) {
                int asked = part;
                Check.refused("job(" + job + ", " + part + ")", INDEX, BoundaryPromisesTest::twelveJobs,
                        x -> x.job(job, asked));
            }
        }
        Check.refused("job 3 of three", INDEX, BoundaryPromisesTest::threeRun, x -> x.job(3, 0));
        Check.query("job 2 of three", WRITE, BoundaryPromisesTest::threeRun, x -> x.job(2, 0));
        Check.query("job 11 of twelve", 12, BoundaryPromisesTest::twelveJobs, x -> x.job(11, 1));
        Check.refused("an undone job", INDEX, x -> {
            twelveJobs(x);
            x.undo();
        }, x -> x.job(11, 0));
        Check.sentence("Throws IllegalArgumentException if part is not 0 to 7");
        int[] noParts = {-1, 8, 9, MIN, MAX};
        for (int part : noParts) {
            Check.refused("job(0, " + part + ")", ARGUMENT, BoundaryPromisesTest::twelveJobs, x -> x.job(0, part));
            Check.refused("job(11, " + part + ")", ARGUMENT, BoundaryPromisesTest::twelveJobs, x -> x.job(11, part));
        }
        Check.sentence("6: its reel, NONE if it does not run");
        Check.query("it waits", NONE, BoundaryPromisesTest::twelveJobs, x -> x.job(0, 6));
        Check.query("it runs", 0, BoundaryPromisesTest::threeRun, x -> x.job(0, 6));
        Check.query("it is done", NONE, x -> {
            threeRun(x);
            x.pass(99);
        }, x -> x.job(0, 6));
        Check.query("it is cancelled", NONE, x -> {
            threeRun(x);
            x.cancel(0);
        }, x -> x.job(0, 6));
        Check.sentence("7: how often a reel for it was sent back");
        Check.query("ninety-nine times", 99, x -> {
            x.set(0, 1);
            x.submit(READ, 1, 1, 0);
            x.pass(99);
        }, x -> x.job(0, 7));
    }

    private static void promise19IsStuck() {
        Check.sentence("Throws IndexOutOfBoundsException if there is no such job");
        int[] noJobs = {-1, 12, MIN, MAX};
        for (int job : noJobs) {
            Check.refused("job " + job, INDEX, BoundaryPromisesTest::twelveJobs, x -> x.isStuck(job));
        }
        Check.refused("job 0 of none", INDEX, NOTHING, x -> x.isStuck(0));
        Check.sentence("Returns true if it waits and is stuck.");
        Check.query("the last volume on the shelf", false, BoundaryPromisesTest::twelveJobs, x -> x.isStuck(5));
        Check.query("the first that is not there", true, BoundaryPromisesTest::twelveJobs, x -> x.isStuck(6));
        Check.query("job 11", true, BoundaryPromisesTest::twelveJobs, x -> x.isStuck(11));
        Check.query("a running job whose reel is away", false, BoundaryPromisesTest::threeRun, x -> x.isStuck(0));
        Check.query("a job that is done, its sticker gone", false, x -> {
            threeRun(x);
            x.pass(20);
            x.setSticker(0, 0);
        }, x -> x.isStuck(0));
        Check.query("a cancelled job, its sticker gone", false, x -> {
            x.submit(READ, 60, 1, 0);
            x.cancel(0);
        }, x -> x.isStuck(0));
    }

    private static void promise20Verdict() {
        Check.sentence("Throws IndexOutOfBoundsException if there is no such job or reel");
        int[][] wrong = {
            {-1, 0}, {12, 0}, {0, -1}, {0, 12}, {11, 12}, {12, 11}, {MIN, 0}, {MAX, 0}, {0, MIN}, {0, MAX},
        };
        for (int[] pair : wrong) {
            Check.refused("verdict(" + pair[0] + ", " + pair[1] + ")", INDEX, BoundaryPromisesTest::twelveJobs,
                    x -> x.verdict(pair[0], pair[1]));
        }
        Check.refused("verdict(0, 0) without jobs", INDEX, NOTHING, x -> x.verdict(0, 0));
        Check.query("verdict(11, 11)", 1, BoundaryPromisesTest::twelveJobs, x -> x.verdict(11, 11));
        Check.query("verdict(0, 0)", 0, BoundaryPromisesTest::twelveJobs, x -> x.verdict(0, 0));
        Check.sentence("whatever the job does and wherever the reel is, with the ring as it is");
        Check.query("a running READ and its reel", 0, BoundaryPromisesTest::threeRun, x -> x.verdict(0, 0));
        Check.query("a running READ and the reel of a WRITE", 1, BoundaryPromisesTest::threeRun, x -> x.verdict(0, 2));
        Check.query("a running WRITE and its reel", 0, BoundaryPromisesTest::threeRun, x -> x.verdict(2, 2));
        Check.query("a running CREATE and its reel", 2, x -> {
            x.submit(CREATE, 50, 9, 0);
            x.pass(1);
        }, x -> x.verdict(0, 6));
        Check.query("a cancelled WRITE", 4, x -> {
            x.submit(WRITE, 1, 1, 0);
            x.cancel(0);
        }, x -> x.verdict(0, 0));
        Check.query("a READ that is done and a ring put in since", 3, x -> {
            x.submit(READ, 1, 1, 0);
            x.pass(2);
            x.setRing(0, true);
        }, x -> x.verdict(0, 0));
    }

    private static void promise21NextJob() {
        Check.sentence("Returns the next job; NONE if there is none.");
        Check.query("none at all", NONE, NOTHING, ReelConsole::nextJob);
        Check.query("all run", NONE, BoundaryPromisesTest::threeRun, ReelConsole::nextJob);
        Check.query("all stuck", NONE, x -> {
            x.submit(READ, 60, 1, 9);
            x.submit(WRITE, 61, 1, 9);
        }, ReelConsole::nextJob);
        Check.query("all done", NONE, x -> {
            threeRun(x);
            x.pass(99);
        }, ReelConsole::nextJob);
        Check.query("all drives full", 3, x -> {
            threeRun(x);
            x.submit(READ, 4, 1, 0);
        }, ReelConsole::nextJob);
    }

    private static void promise22NextReel() {
        Check.sentence("NONE if there is no next job");
        Check.query("none at all", NONE, x -> x.set(0, 1), ReelConsole::nextReel);
        Check.query("all run", NONE, BoundaryPromisesTest::threeRun, ReelConsole::nextReel);
        Check.query("all stuck", NONE, x -> {
            x.set(0, 1);
            x.submit(READ, 60, 1, 9);
        }, ReelConsole::nextReel);
        Check.sentence("whether there is an empty drive or not");
        Check.query("all drives full", 3, x -> {
            threeRun(x);
            x.submit(READ, 4, 1, 0);
        }, ReelConsole::nextReel);
        Check.query("all drives full, the fourth mount is a slip", 4, x -> {
            threeRun(x);
            x.submit(READ, 4, 1, 0);
            x.set(0, 4);
        }, ReelConsole::nextReel);
        Check.query("all drives full, only the third mount was a slip", 3, x -> {
            threeRun(x);
            x.submit(READ, 4, 1, 0);
            x.set(0, 3);
        }, ReelConsole::nextReel);
        Check.query("behind the last reel, past the reels on drives", 3, x -> {
            threeRun(x);
            x.set(0, 1);
            x.setSticker(11, 60);
            x.submit(READ, 60, 1, 0);
        }, ReelConsole::nextReel);
    }

    private static void promise23MinutesToDone() {
        Check.sentence("Throws IndexOutOfBoundsException if there is no such job");
        int[] noJobs = {-1, 12, MIN, MAX};
        for (int job : noJobs) {
            Check.refused("job " + job, INDEX, BoundaryPromisesTest::twelveJobs, x -> x.minutesToDone(job));
        }
        Check.refused("job 0 of none", INDEX, NOTHING, x -> x.minutesToDone(0));
        Check.sentence("Returns the number of minutes; 0 if it is done; NONE if it is cancelled, or if it would not be"
                + " done within 300 minutes.");
        for (int minutes = 1; minutes <= 20; minutes++) {
            int length = minutes;
            Check.query("a new job of " + minutes, minutes + 1, x -> x.submit(READ, 1, length, 0),
                    x -> x.minutesToDone(0));
            Check.query("in the last minute of " + minutes, 1, x -> {
                x.submit(READ, 1, length, 0);
                x.pass(length);
            }, x -> x.minutesToDone(0));
            Check.query("after the last minute of " + minutes, 0, x -> {
                x.submit(READ, 1, length, 0);
                x.pass(length + 1);
            }, x -> x.minutesToDone(0));
        }
        Check.query("cancelled while it waits", NONE, x -> {
            x.submit(READ, 1, 1, 0);
            x.cancel(0);
        }, x -> x.minutesToDone(0));
        Check.query("cancelled while it runs", NONE, x -> {
            threeRun(x);
            x.cancel(0);
        }, x -> x.minutesToDone(0));
        Check.query("stuck for ever", NONE, x -> x.submit(READ, 60, 1, 0), x -> x.minutesToDone(0));
        Check.query("sent back for ever", NONE, x -> {
            x.set(0, 1);
            x.submit(READ, 1, 1, 0);
        }, x -> x.minutesToDone(0));
        Check.query("behind one that is sent back for ever", NONE, x -> {
            x.set(0, 1);
            x.submit(READ, 1, 1, 1);
            x.submit(READ, 2, 1, 0);
        }, x -> x.minutesToDone(1));
        Check.query("stuck until a reel is put back", 21, x -> {
            threeRun(x);
            x.submit(READ, 3, 1, 0);
        }, x -> x.minutesToDone(3));
        Check.query("no empty drive until then", 19, x -> {
            threeRun(x);
            x.submit(READ, 4, 1, 0);
        }, x -> x.minutesToDone(3));
    }

    /**
     * No job is done later than in minute 277, so 300 itself cannot be met: if CARE is 2 or more, a reel that was sent
     * back once is not sent back again but in a slip, so of the mounts that are no slips at most 12 fail and 12
     * succeed, with at most 24 slips between them; 240 minutes of work, the first mount and 36 failures make 277. If
     * CARE is 1, a mount that fails while no job runs changes a sticker (12 times at most) or fails for ever.
     */
    private static void promise23TheLongestWay() {
        Check.sentence("if it would not be done within 300 minutes");
        Check.Steps twelve = x -> {
            for (int job = 0; job < 12; job++) {
                x.submit(WRITE, 6, 20, 0);
            }
        };
        Check.query("twelve jobs on one reel", 241, twelve, x -> x.minutesToDone(11));
        Check.query("with a slip before each but the first", 252, x -> {
            x.set(0, 2);
            twelve.on(x);
        }, x -> x.minutesToDone(11));
        Check.query("with wrong stickers before the right reel", 246, x -> {
            for (int reel = 0; reel < 5; reel++) {
                x.setSticker(reel, 6);
            }
            twelve.on(x);
        }, x -> x.minutesToDone(11));
        Check.query("the longest way that was found", 268, BoundaryPromisesTest::longestWay, x -> x.minutesToDone(11));
        ReelConsole x = Check.after(BoundaryPromisesTest::longestWay);
        x.pass(99);
        x.pass(99);
        x.pass(69);
        Check.due("it runs in the minute 267", 1, x.job(11, 4));
        Check.due("a job becomes done in the minute 268", 1, x.pass(1));
        Check.due("it is this one", 2, x.job(11, 4));
    }

    /** Each second mount is a slip, and wrong stickers stand before the reel that a CREATE makes. */
    private static void longestWay(ReelConsole x) {
        int[] stickers = {0, 7, 0, 7, 5, 0, 7, 0, 7, 0, 7, 0};
        x.set(0, 2);
        for (int reel = 0; reel < 12; reel++) {
            x.setSticker(reel, stickers[reel]);
        }
        for (int job = 0; job < 12; job++) {
            x.submit(job == 1 ? CREATE : job == 10 ? READ : WRITE, 7, 20, job == 10 ? 7 : 0);
        }
    }

    private static void promise24Count() {
        Check.sentence("Throws IllegalArgumentException if what is not 0 to 10");
        int[] wrong = {-1, 11, 12, MIN, MAX};
        for (int what : wrong) {
            Check.refused("count(" + what + ")", ARGUMENT, BoundaryPromisesTest::threeRun, x -> x.count(what));
        }
        int[] due = {0, 3, 3, 0, 0, 3, 0, 0, 0, 3, 0};
        for (int what = 0; what <= 10; what++) {
            int asked = what;
            Check.query("count(" + what + ")", due[what], BoundaryPromisesTest::threeRun, x -> x.count(asked));
        }
        Check.sentence("8: jobs that wait; 9: jobs that run; 10: jobs that are done");
        int[] full = {12, 0, 0};
        int[] later = {6, 0, 6};
        for (int what = 8; what <= 10; what++) {
            int asked = what;
            Check.query("count(" + what + ") of twelve", full[what - 8], BoundaryPromisesTest::twelveJobs,
                    x -> x.count(asked));
            Check.query("count(" + what + ") later", later[what - 8], x -> {
                twelveJobs(x);
                x.pass(99);
            }, x -> x.count(asked));
        }
        Check.sentence("6: blocks that were written (without those that were dropped); 7: blocks that were dropped");
        Check.Steps dropping = x -> {
            for (int job = 0; job < 12; job++) {
                x.submit(WRITE, 1, 20, 0);
            }
            x.pass(99);
            x.pass(99);
            x.pass(99);
        };
        Check.query("written", 99, dropping, x -> x.count(6));
        Check.query("dropped", 141, dropping, x -> x.count(7));
        Check.query("read", 0, dropping, x -> x.count(5));
        Check.query("minutes", 297, dropping, x -> x.count(1));
    }

    private static void promise25Success() {
        Check.sentence("1.0 if there were no mounts");
        Check.query("a new object", 1.0, NOTHING, ReelConsole::success);
        Check.query("minutes without a mount", 1.0, x -> x.pass(99), ReelConsole::success);
        Check.query("the only mount undone", 1.0, x -> {
            x.setSticker(8, 60);
            x.submit(READ, 60, 1, 0);
            x.pass(1);
            x.undo();
        }, ReelConsole::success);
        Check.sentence("converted to double, divided by the number of mounts, converted to double");
        Check.query("none of one", 0.0, x -> {
            x.setSticker(8, 60);
            x.submit(READ, 60, 1, 0);
            x.pass(1);
        }, ReelConsole::success);
        Check.query("none of ninety-nine", 0.0, x -> {
            x.set(0, 1);
            x.submit(READ, 1, 1, 0);
            x.pass(99);
        }, ReelConsole::success);
        Check.query("one of one", 1.0, x -> {
            x.submit(READ, 1, 1, 0);
            x.pass(1);
        }, ReelConsole::success);
        Check.query("one of three", 1.0 / 3.0, x -> {
            x.setSticker(8, 60);
            x.setSticker(9, 61);
            x.submit(READ, 60, 1, 0);
            x.submit(READ, 61, 1, 0);
            x.submit(READ, 1, 1, 0);
            x.pass(3);
        }, ReelConsole::success);
    }

    private static void promise26SavedStates() {
        Check.sentence("Returns the number of saved states.");
        Check.query("none", 0, NOTHING, ReelConsole::savedStates);
        Check.query("six", 6, BoundaryPromisesTest::sixDays, ReelConsole::savedStates);
        Check.query("a seventh", 6, x -> {
            sixDays(x);
            x.nextDay();
        }, ReelConsole::savedStates);
        Check.query("after an undo of seven", 5, x -> {
            sixDays(x);
            x.nextDay();
            x.undo();
        }, ReelConsole::savedStates);
    }

    private static void promise27TextLength() {
        Check.sentence("Returns the length of the text.");
        int[] lengths = {0, 1, 79, 80};
        for (int length : lengths) {
            Check.query("length " + length, length, x -> Check.type(x, "d".repeat(length)), ReelConsole::textLength);
        }
        Check.query("an 81st character refused", 80, x -> {
            Check.type(x, "d".repeat(80));
            Check.answer(x, r -> r.appendText('d'));
        }, ReelConsole::textLength);
        Check.query("runText leaves it", 1, x -> {
            Check.type(x, "d");
            x.runText();
            x.undo();
        }, ReelConsole::textLength);
    }
}
