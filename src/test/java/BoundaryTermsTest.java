/** The boundary cases that the terms of the document name (its sections 1 to 8), sentence by sentence. */
public final class BoundaryTermsTest {
    private static final int READ = ReelConsole.READ, WRITE = ReelConsole.WRITE, CREATE = ReelConsole.CREATE;
    private static final int NONE = ReelConsole.NONE;
    private static final int LABEL = 0, STICKER = 1, RING = 2, EXPIRY = 3, BLOCKS = 4, DRIVE = 5, SCRATCH = 6;
    private static final int STATE = 4, DONE_BLOCKS = 5, REEL = 6, SENT_BACK = 7;
    private static final int WAITS = 0, RUNS = 1, DONE = 2, CANCELLED = 3;
    private static final int MOUNTS = 2, SLIPS = 3, ALL_SENT_BACK = 4, READ_BLOCKS = 5, WRITTEN = 6, DROPPED = 7;
    private static final Class<IllegalArgumentException> BAD_ARGUMENT = IllegalArgumentException.class;
    private static final Class<IllegalStateException> BAD_STATE = IllegalStateException.class;
    private static final Class<IndexOutOfBoundsException> BAD_INDEX = IndexOutOfBoundsException.class;

    public static void main(String[] args) {
        reelsAtFirst();
        oneReelOnADrive();
        daysAndScratch();
        statesOfAJob();
        theReelThatIsFound();
        theNextJob();
        everyCareAndMount();
        theShelfGoesRound();
        ringsInASlip();
        theFirstVerdictThatApplies();
        whatIsSentBack();
        theLowestEmptyDrive();
        whatACreateMakes();
        blocksNotAbove99();
        asManyBlocksAsMinutes();
        noDriveOrNoJob();
        rangesOfSettings();
        textsFromEmptyToFull();
        numbersInTexts();
        textsOfAnyLength();
        sixSavedStates();
        savedEvenIfNothingChanges();
        theFirstExceptionNamed();
        Check.end("BoundaryTermsTest");
    }

    // ---- section 1

    private static void reelsAtFirst() {
        Check.sentence("There are 12 reels, numbered 0 to 11.");
        Check.query("the first", 1, x -> { }, x -> x.reel(0, LABEL));
        Check.query("the last", 0, x -> { }, x -> x.reel(11, LABEL));
        Check.refused("one below", BAD_INDEX, x -> { }, x -> x.reel(-1, LABEL));
        Check.refused("one above", BAD_INDEX, x -> { }, x -> x.reel(12, LABEL));
        Check.sentence("the reel r has the label and the sticker r + 1 if r is less than 6, and both are blank"
                + " otherwise");
        ReelConsole x = new ReelConsole();
        Check.due("label of reel 5", 6, x.reel(5, LABEL));
        Check.due("sticker of reel 5", 6, x.reel(5, STICKER));
        Check.due("label of reel 6", 0, x.reel(6, LABEL));
        Check.due("sticker of reel 6", 0, x.reel(6, STICKER));
    }

    private static void oneReelOnADrive() {
        Check.sentence("there is at most one reel on a drive");
        ReelConsole x = Check.after(r -> {
            for (int volume = 1; volume <= 6; volume++) {
                r.submit(volume % 2 == 0 ? READ : WRITE, volume, volume, 0);
            }
        });
        for (int minute = 1; minute <= 12; minute++) {
            x.pass(1);
            int onDrives = 0;
            for (int reel = 0; reel < 6; reel++) {
                int drive = x.reel(reel, DRIVE);
                if (drive != NONE) {
                    onDrives++;
                    Check.due("the reel on drive " + drive + " in minute " + minute, reel, x.reelOn(drive));
                }
            }
            Check.due("jobs that run in minute " + minute, onDrives, x.count(9));
            Check.due("at most three in minute " + minute, true, onDrives <= 3);
        }
        Check.due("all jobs are done", 6, x.count(10));
    }

    /** The reel 6 gets the label 50 on day 0, with the expiry day 2. */
    private static void labelUntilDayTwo(ReelConsole x) {
        x.set(1, 2);
        x.submit(CREATE, 50, 1, 0);
        x.pass(2);
    }

    private static void daysAndScratch() {
        Check.sentence("The day is a number from 0 to 999, at first 0.");
        Check.query("at first", 0, x -> { }, x -> x.count(0));
        Check.undoable("up to the last", 999, x -> Check.toDay(x, 998), ReelConsole::nextDay);
        Check.refused("beyond the last", BAD_STATE, x -> Check.toDay(x, 999), ReelConsole::nextDay);
        Check.query("the last", 999, x -> Check.toDay(x, 999), x -> x.count(0));
        Check.sentence("A reel is scratch if its label is blank or its expiry day is less than the day.");
        Check.query("blank, its expiry day is the day", 1, x -> { }, x -> x.reel(6, SCRATCH));
        Check.query("blank with a sticker", 1, x -> x.setSticker(6, 50), x -> x.reel(6, SCRATCH));
        int[] due = {0, 0, 0, 1, 1};
        for (int day = 0; day < due.length; day++) {
            int days = day;
            Check.query("expiry day 2 on day " + day, due[day], x -> {
                labelUntilDayTwo(x);
                Check.toDay(x, days);
            }, x -> x.reel(6, SCRATCH));
        }
        Check.query("expiry day 0 on day 0", 0, x -> { }, x -> x.reel(0, SCRATCH));
        Check.query("expiry day 0 on day 1", 1, ReelConsole::nextDay, x -> x.reel(0, SCRATCH));
        Check.query("expiry day 0 on day 999", 12, x -> Check.toDay(x, 999), ReelConsole::scratchReels);
    }

    // ---- section 2

    private static void statesOfAJob() {
        Check.sentence("There are at most 12 jobs, numbered from 0 in the order in which they are submitted.");
        ReelConsole x = new ReelConsole();
        for (int job = 0; job < 12; job++) {
            Check.due("submission " + job, job, x.submit(READ, 1, 1, 0));
        }
        Check.due("one too many", "throws.IllegalStateException", Check.answer(x, r -> r.submit(READ, 1, 1, 0)));
        Check.due("jobs", 12, x.jobs());
        x.undo();
        Check.due("the number of an undone job is used again", 11, x.submit(READ, 1, 1, 0));
        Check.sentence("It waits (at first), runs, is done, or is cancelled.");
        ReelConsole one = Check.after(r -> r.submit(READ, 1, 1, 0));
        Check.due("at first", WAITS, one.job(0, STATE));
        one.pass(1);
        Check.due("served", RUNS, one.job(0, STATE));
        one.pass(1);
        Check.due("after its block", DONE, one.job(0, STATE));
        one.undo();
        one.cancel(0);
        Check.due("cancelled", CANCELLED, one.job(0, STATE));
        one.pass(99);
        Check.due("cancelled for ever", CANCELLED, one.job(0, STATE));
        Check.sentence("A running job has a drive and the reel on it.");
        Check.due("none before", NONE, Check.after(r -> r.submit(READ, 6, 2, 0)).job(0, REEL));
        ReelConsole runs = Check.after(r -> {
            r.submit(READ, 6, 2, 0);
            r.pass(2);
        });
        Check.due("the reel", 5, runs.job(0, REEL));
        Check.due("the drive", 0, runs.reel(5, DRIVE));
        runs.pass(1);
        Check.due("none after", NONE, runs.job(0, REEL));
        Check.due("the shelf after", NONE, runs.reel(5, DRIVE));
    }

    // ---- section 3

    private static void theReelThatIsFound() {
        Check.sentence("for a job of the kind READ or WRITE the reel with the lowest number whose sticker is"
                + " the volume");
        Check.Steps same = x -> {
            x.setSticker(4, 60);
            x.setSticker(11, 60);
            x.submit(READ, 60, 1, 0);
        };
        Check.query("the lowest of two", 4, same, ReelConsole::nextReel);
        Check.query("the highest reel when it alone is left", 11, x -> {
            same.on(x);
            x.setSticker(4, 0);
        }, ReelConsole::nextReel);
        Check.query("reel 0", 0, x -> x.submit(WRITE, 1, 1, 0), ReelConsole::nextReel);
        Check.query("the lowest one is on a drive", 9, x -> {
            x.setSticker(9, 1);
            x.submit(READ, 1, 5, 0);
            x.pass(1);
            x.submit(READ, 1, 5, 0);
        }, ReelConsole::nextReel);
        Check.sentence("for a job of the kind CREATE the reel with the lowest number whose sticker is blank");
        Check.query("the lowest of six", 6, x -> x.submit(CREATE, 60, 1, 0), ReelConsole::nextReel);
        Check.query("reel 0", 0, x -> {
            x.setSticker(0, 0);
            x.submit(CREATE, 60, 1, 0);
        }, ReelConsole::nextReel);
        Check.query("the last blank one", 11, x -> {
            stickOver(x, 6, 10);
            x.submit(CREATE, 60, 1, 0);
        }, ReelConsole::nextReel);
        Check.sentence("If there is no such reel on the shelf, the job is stuck.");
        Check.query("a CREATE without a blank one", true, x -> {
            stickOver(x, 6, 11);
            x.submit(CREATE, 60, 1, 0);
        }, x -> x.isStuck(0));
        Check.query("a READ whose only reel is on a drive", true, x -> {
            x.submit(READ, 1, 2, 0);
            x.submit(WRITE, 1, 2, 0);
            x.pass(1);
        }, x -> x.isStuck(1));
        Check.query("the same when the reel is back", false, x -> {
            x.submit(READ, 1, 2, 9);
            x.submit(WRITE, 1, 2, 0);
            x.pass(1);
            x.cancel(0);
        }, x -> x.isStuck(1));
        Check.query("a volume that only a label names", true, x -> {
            x.setSticker(0, 0);
            x.submit(READ, 1, 2, 0);
        }, x -> x.isStuck(0));
    }

    private static void stickOver(ReelConsole x, int first, int last) {
        for (int reel = first; reel <= last; reel++) {
            x.setSticker(reel, 90);
        }
    }

    private static void theNextJob() {
        Check.sentence("The next job is the waiting job that is not stuck with the highest priority, of several the one"
                + " with the lowest number.");
        Check.query("no job", NONE, x -> { }, ReelConsole::nextJob);
        Check.query("only a stuck one of priority 9", NONE, x -> x.submit(READ, 60, 1, 9), ReelConsole::nextJob);
        Check.query("only one that is done", NONE, x -> {
            x.submit(READ, 1, 1, 9);
            x.pass(2);
        }, ReelConsole::nextJob);
        Check.query("only one that runs", NONE, x -> {
            x.setSticker(9, 1);
            x.submit(READ, 1, 9, 9);
            x.pass(1);
        }, ReelConsole::nextJob);
        Check.query("only a cancelled one", NONE, x -> {
            x.submit(READ, 1, 1, 9);
            x.cancel(0);
        }, ReelConsole::nextJob);
        Check.query("the lowest priority alone", 1, x -> {
            x.submit(READ, 60, 1, 9);
            x.submit(READ, 1, 1, 0);
        }, ReelConsole::nextJob);
        Check.query("0 against 1", 1, x -> {
            x.submit(READ, 1, 1, 0);
            x.submit(READ, 2, 1, 1);
        }, ReelConsole::nextJob);
        Check.query("twelve of priority 9", 0, x -> {
            for (int job = 0; job < 12; job++) {
                x.submit(READ, 1, 1, 9);
            }
        }, ReelConsole::nextJob);
        Check.query("the twelfth alone has priority 9", 11, x -> {
            for (int job = 0; job < 11; job++) {
                x.submit(READ, 1, 1, 8);
            }
            x.submit(READ, 1, 1, 9);
        }, ReelConsole::nextJob);
    }

    private static void everyCareAndMount() {
        Check.sentence("A mount is a slip if CARE is not 0 and the number of the mount (counted from 1 on) can"
                + " be divided by CARE without remainder.");
        for (int care = 0; care <= 9; care++) {
            ReelConsole x = new ReelConsole();
            x.set(0, care);
            x.submit(READ, 60, 1, 0);
            for (int mount = 1; mount <= 20; mount++) {
                String what = "CARE " + care + ", mount " + mount;
                boolean slip = care != 0 && mount % care == 0;
                x.setSticker(8, 60);
                Check.due(what + ", nextReel()", slip ? 9 : 8, x.nextReel());
                x.pass(1);
                Check.due(what + ", mounts", mount, x.count(MOUNTS));
                Check.due(what + ", slips", care == 0 ? 0 : mount / care, x.count(SLIPS));
                Check.due(what + ", sent back", mount, x.count(ALL_SENT_BACK));
                Check.due(what + ", sent back for the job", mount, x.job(0, SENT_BACK));
            }
        }
        ReelConsole late = Check.after(r -> {
            r.submit(READ, 1, 1, 0);
            r.submit(READ, 2, 1, 0);
            r.submit(READ, 3, 1, 0);
            r.pass(2);
            r.set(0, 3);
        });
        Check.due("mounts before CARE was set are counted too", 3, late.nextReel());
        late.set(0, 2);
        Check.due("the number of the mount is 3, not 2", 2, late.nextReel());
        late.undo();
        late.undo();
        Check.due("no slip when CARE is 0 again", 2, late.nextReel());
    }

    /** The reels 10 and 11 run on the drives 0 and 1. */
    private static void lastReelsRun(ReelConsole x) {
        stickOver(x, 6, 9);
        x.submit(CREATE, 50, 20, 0);
        x.submit(CREATE, 51, 20, 0);
        x.pass(2);
    }

    private static void theShelfGoesRound() {
        Check.sentence("the one on the shelf with the lowest number that is greater; if there is none, the one on the"
                + " shelf with the lowest number of all");
        Check.Steps wanted = x -> {
            x.set(0, 1);
            x.submit(READ, 60, 1, 0);
        };
        for (int reel = 0; reel < 12; reel++) {
            int found = reel;
            Check.query("behind reel " + reel, (reel + 1) % 12, x -> {
                wanted.on(x);
                x.setSticker(found, 60);
            }, ReelConsole::nextReel);
        }
        Check.query("behind reel 9 with 10 and 11 on drives", 0, x -> {
            lastReelsRun(x);
            wanted.on(x);
            x.setSticker(9, 60);
        }, ReelConsole::nextReel);
        Check.query("behind reel 9 with 10, 11 and 0 on drives", 1, x -> {
            lastReelsRun(x);
            x.submit(READ, 1, 20, 0);
            x.pass(1);
            wanted.on(x);
            x.setSticker(9, 60);
        }, ReelConsole::nextReel);
        Check.query("behind reel 0 with 1, 2 and 3 on drives", 4, x -> {
            for (int volume = 2; volume <= 4; volume++) {
                x.submit(READ, volume, 20, 0);
            }
            x.pass(3);
            wanted.on(x);
            x.setSticker(0, 60);
        }, ReelConsole::nextReel);
        Check.query("behind reel 11 with 0, 1 and 2 on drives", 3, x -> {
            for (int volume = 1; volume <= 3; volume++) {
                x.submit(READ, volume, 20, 0);
            }
            x.pass(3);
            wanted.on(x);
            x.setSticker(11, 60);
        }, ReelConsole::nextReel);
        ReelConsole served = Check.after(x -> {
            lastReelsRun(x);
            wanted.on(x);
            x.setSticker(9, 60);
            x.setSticker(0, 77);
            x.pass(1);
        });
        Check.due("the first reel was sent back", 1, served.reel(0, STICKER));
        Check.due("the reel that was found is as it was", 60, served.reel(9, STICKER));
        ReelConsole fits = Check.after(x -> {
            x.set(0, 1);
            x.setSticker(11, 1);
            x.setSticker(0, 77);
            x.submit(READ, 1, 1, 0);
            x.pass(1);
        });
        Check.due("the first reel may fit", 0, fits.reelOn(0));
        Check.due("and keeps its sticker", 77, fits.reel(0, STICKER));
    }

    private static void ringsInASlip() {
        Check.sentence("in a slip the ring stays as it is");
        for (int kind = READ; kind <= CREATE; kind++) {
            for (int ring = 0; ring <= 1; ring++) {
                int asked = kind;
                boolean put = ring == 1;
                ReelConsole x = Check.after(r -> {
                    r.set(0, 1);
                    r.setSticker(7, 60);
                    r.setRing(7, !put);
                    r.setRing(8, put);
                    r.setSticker(6, 90);
                    if (asked == CREATE) {
                        r.setSticker(7, 0);
                    }
                    r.submit(asked, 60, 5, 0);
                    r.pass(1);
                });
                String what = "kind " + kind + ", ring " + ring;
                Check.due(what + ", the reel that is taken", ring, x.reel(8, RING));
                Check.due(what + ", the reel that was found", 1 - ring, x.reel(7, RING));
                Check.due(what + ", runs", kind == CREATE && put ? RUNS : WAITS, x.job(0, STATE));
            }
        }
        Check.sentence("the operator puts a ring into the reel if the kind of the job is WRITE or CREATE, and takes the"
                + " ring out otherwise");
        for (int ring = 0; ring <= 1; ring++) {
            boolean before = ring == 1;
            int[] due = {0, 1, 1};
            for (int kind = READ; kind <= CREATE; kind++) {
                int asked = kind;
                ReelConsole x = Check.after(r -> {
                    r.setRing(0, before);
                    r.setRing(6, before);
                    r.submit(asked, asked == CREATE ? 60 : 1, 5, 0);
                    r.pass(1);
                });
                Check.due("kind " + kind + ", ring " + ring, due[kind], x.reel(kind == CREATE ? 6 : 0, RING));
                Check.due("kind " + kind + ", ring " + ring + ", runs", RUNS, x.job(0, STATE));
            }
        }
    }

    /** Reel 0 has its label, reel 1 another one, reel 6 none; each once with a ring and once without. */
    private static void theFirstVerdictThatApplies() {
        Check.sentence("The verdict is the first of these numbers that applies");
        int[] reels = {0, 1, 6};
        int[][] withoutRing = {{0, 1, 1}, {4, 1, 1}, {2, 2, 4}};
        int[][] withRing = {{3, 1, 1}, {0, 1, 1}, {2, 2, 0}};
        for (int kind = READ; kind <= CREATE; kind++) {
            for (int at = 0; at < reels.length; at++) {
                int asked = kind, reel = reels[at];
                Check.Steps job = x -> x.submit(asked, asked == CREATE ? 60 : 1, 1, 0);
                Check.query("kind " + kind + ", reel " + reel, withoutRing[kind][at], job, x -> x.verdict(0, reel));
                Check.query("kind " + kind + ", reel " + reel + " with a ring", withRing[kind][at], x -> {
                    job.on(x);
                    x.setRing(reel, true);
                }, x -> x.verdict(0, reel));
            }
        }
        Check.query("a CREATE and a label on its last day", 2, x -> {
            labelUntilDayTwo(x);
            x.submit(CREATE, 60, 1, 0);
            Check.toDay(x, 2);
        }, x -> x.verdict(1, 6));
        Check.query("a CREATE and a label after its last day", 0, x -> {
            labelUntilDayTwo(x);
            x.submit(CREATE, 60, 1, 0);
            Check.toDay(x, 3);
        }, x -> x.verdict(1, 6));
        Check.query("a READ and a label after its last day", 0, x -> {
            x.submit(READ, 1, 1, 0);
            x.nextDay();
        }, x -> x.verdict(0, 0));
    }

    private static void whatIsSentBack() {
        Check.sentence("it stays on the shelf, its sticker becomes its label (blank if the reel is scratch),"
                + " and the job waits on");
        int[] days = {0, 1, 2, 3};
        int[] dueOfLabel = {50, 50, 50, 0};
        int[] dueOfFirst = {3, 0, 0, 0};
        for (int day : days) {
            ReelConsole x = Check.after(r -> {
                labelUntilDayTwo(r);
                Check.toDay(r, day);
                r.setSticker(6, 70);
                r.setSticker(2, 71);
                r.setSticker(8, 72);
                r.submit(READ, 70, 1, 0);
                r.submit(WRITE, 71, 1, 0);
                r.submit(READ, 72, 1, 0);
                r.pass(3);
            });
            Check.due("a label until day 2 on day " + day, dueOfLabel[day], x.reel(6, STICKER));
            Check.due("its label stays", 50, x.reel(6, LABEL));
            Check.due("a label until day 0 on day " + day, dueOfFirst[day], x.reel(2, STICKER));
            Check.due("a blank label", 0, x.reel(8, STICKER));
            for (int job = 1; job <= 3; job++) {
                Check.due("job " + job + " waits on", WAITS, x.job(job, STATE));
                Check.due("job " + job + " is stuck now", true, x.isStuck(job));
                Check.due("job " + job + " has sent one back", 1, x.job(job, SENT_BACK));
            }
            Check.due("all drives are empty", NONE, Math.max(x.reelOn(0), Math.max(x.reelOn(1), x.reelOn(2))));
            Check.due("mounts", 4, x.count(MOUNTS));
            Check.due("sent back", 3, x.count(ALL_SENT_BACK));
        }
    }

    private static void theLowestEmptyDrive() {
        Check.sentence("the reel is put on the empty drive with the lowest number, and the job runs");
        int[][] cancelled = {{0}, {1}, {2}, {1, 2}, {0, 2}, {0, 1, 2}};
        for (int[] jobs : cancelled) {
            ReelConsole x = Check.after(r -> {
                for (int volume = 1; volume <= 4; volume++) {
                    r.submit(READ, volume, 20, 0);
                }
                r.pass(3);
                for (int job : jobs) {
                    r.cancel(job);
                }
                r.pass(1);
            });
            Check.due("the drive of reel 3", jobs[0], x.reel(3, DRIVE));
            Check.due("the reel of the job", 3, x.job(3, REEL));
            Check.due("the job", RUNS, x.job(3, STATE));
        }
    }

    private static void whatACreateMakes() {
        Check.sentence("its expiry day becomes the day plus the setting KEEP, and its number of blocks becomes 0");
        int[][] cases = {{0, 0}, {0, 99}, {1, 10}, {900, 99}, {999, 0}, {999, 99}};
        for (int[] pair : cases) {
            ReelConsole x = Check.after(r -> {
                Check.toDay(r, pair[0]);
                r.set(1, pair[1]);
                r.submit(CREATE, 99, 1, 0);
                r.pass(1);
            });
            Check.due("expiry of day " + pair[0] + " and KEEP " + pair[1], pair[0] + pair[1], x.reel(6, EXPIRY));
        }
        Check.query("at first KEEP is 10", 10, x -> {
            x.submit(CREATE, 99, 1, 0);
            x.pass(1);
        }, x -> x.reel(6, EXPIRY));
        Check.query("KEEP of the minute of the mount counts", 3, x -> {
            x.submit(CREATE, 99, 1, 0);
            x.set(1, 3);
            x.pass(1);
            x.set(1, 50);
        }, x -> x.reel(6, EXPIRY));
        ReelConsole full = Check.after(r -> {
            writeOnReelZero(r, 99);
            r.nextDay();
            r.setSticker(0, 0);
            r.submit(CREATE, 60, 20, 0);
        });
        Check.due("a full reel before", 99, full.reel(0, BLOCKS));
        full.pass(1);
        Check.due("when it is mounted", 0, full.reel(0, BLOCKS));
        full.pass(20);
        Check.due("when the job is done", 20, full.reel(0, BLOCKS));
        Check.due("none was dropped", 0, full.count(DROPPED));
        ReelConsole back = Check.after(r -> {
            r.set(0, 1);
            r.submit(CREATE, 60, 20, 0);
            r.pass(1);
        });
        Check.due("a CREATE whose reel is sent back makes no label", 0, back.reel(7, LABEL));
        Check.due("and no expiry day", 0, back.reel(7, EXPIRY));
    }

    // ---- section 4

    /** Writes so many blocks on reel 0, one a minute; all its jobs are done then. */
    private static void writeOnReelZero(ReelConsole x, int blocks) {
        for (int left = blocks; left > 0; left -= 20) {
            x.submit(WRITE, 1, Math.min(20, left), 0);
        }
        x.pass(1);
        x.pass(blocks);
    }

    private static void blocksNotAbove99() {
        Check.sentence("the number of blocks of its reel increases by 1, but not above 99 (a block that would"
                + " be above is dropped)");
        int[] before = {97, 98, 99};
        for (int blocks : before) {
            ReelConsole x = Check.after(r -> {
                writeOnReelZero(r, blocks);
                r.submit(WRITE, 1, 2, 0);
                r.pass(1);
            });
            String what = "two blocks on " + blocks;
            Check.due(what + ", before", blocks, x.reel(0, BLOCKS));
            Check.due(what + ", done in", 2, x.minutesToDone(5));
            Check.due(what + ", jobs that become done", 1, x.pass(2));
            Check.due(what + ", after", 99, x.reel(0, BLOCKS));
            Check.due(what + ", written", 99, x.count(WRITTEN));
            Check.due(what + ", dropped", blocks - 97, x.count(DROPPED));
            Check.due(what + ", done by the job", 2, x.job(5, DONE_BLOCKS));
            Check.due(what + ", the job", DONE, x.job(5, STATE));
        }
        Check.sentence("a job of the kind READ reads one");
        ReelConsole read = Check.after(r -> {
            writeOnReelZero(r, 99);
            r.submit(READ, 1, 20, 0);
            r.pass(21);
        });
        Check.due("blocks that were read of a full reel", 20, read.count(READ_BLOCKS));
        Check.due("none was dropped", 0, read.count(DROPPED));
        Check.due("the reel", 99, read.reel(0, BLOCKS));
        ReelConsole empty = Check.after(r -> {
            r.submit(READ, 1, 2, 0);
            r.pass(3);
        });
        Check.due("blocks that were read of an empty reel", 2, empty.count(READ_BLOCKS));
        Check.due("the empty reel", 0, empty.reel(0, BLOCKS));
    }

    private static void asManyBlocksAsMinutes() {
        Check.sentence("If the job has done as many blocks as it has minutes, it is done, and its reel is put"
                + " back on the shelf.");
        for (int minutes = 1; minutes <= 20; minutes++) {
            int asked = minutes;
            ReelConsole x = Check.after(r -> {
                r.submit(WRITE, 1, asked, 0);
                r.pass(asked);
            });
            Check.due("blocks one minute before the last of " + minutes, minutes - 1, x.job(0, DONE_BLOCKS));
            Check.due("one minute before it", RUNS, x.job(0, STATE));
            Check.due("its reel", 0, x.reelOn(0));
            Check.due("the last minute", 1, x.pass(1));
            Check.due("after it", DONE, x.job(0, STATE));
            Check.due("its blocks", minutes, x.job(0, DONE_BLOCKS));
            Check.due("its drive", NONE, x.reelOn(0));
            Check.due("another minute", 0, x.pass(1));
            Check.due("it does no more", minutes, x.job(0, DONE_BLOCKS));
        }
        Check.query("three jobs become done in one minute", 3, r -> {
            r.submit(READ, 1, 3, 0);
            r.submit(WRITE, 2, 2, 0);
            r.submit(CREATE, 60, 1, 0);
            r.pass(3);
            r.pass(1);
        }, r -> r.count(10));
    }

    private static void noDriveOrNoJob() {
        Check.sentence("If there is an empty drive and a next job, it is served.");
        Check.undoable("no job", 0, x -> { }, x -> x.pass(1));
        ReelConsole none = Check.after(r -> {
            r.submit(READ, 60, 1, 9);
            r.pass(99);
        });
        Check.due("only a stuck job", 0, none.count(MOUNTS));
        ReelConsole x = Check.after(r -> {
            for (int volume = 1; volume <= 5; volume++) {
                r.submit(READ, volume, volume == 2 ? 3 : 20, 0);
            }
            r.pass(4);
        });
        Check.due("no empty drive", 3, x.count(MOUNTS));
        Check.due("the fourth job waits", WAITS, x.job(3, STATE));
        Check.due("it is not stuck", false, x.isStuck(3));
        x.pass(1);
        Check.due("the drive becomes empty in this very minute", 4, x.count(MOUNTS));
        Check.due("the fourth job has it", 3, x.reelOn(1));
        Check.due("it has done nothing yet", 0, x.job(3, DONE_BLOCKS));
        ReelConsole same = Check.after(r -> {
            r.submit(READ, 1, 1, 0);
            r.submit(WRITE, 1, 1, 0);
            r.pass(1);
        });
        Check.due("the second waits for the reel", true, same.isStuck(1));
        same.pass(1);
        Check.due("it has the reel in the minute in which it is put back", RUNS, same.job(1, STATE));
    }

    // ---- section 5

    private static void rangesOfSettings() {
        Check.sentence("The setting CARE is a number from 0 to 9, at first 0.");
        Check.undoable("at first", 0, x -> { }, x -> x.set(0, 0));
        Check.undoable("the highest", 0, x -> { }, x -> x.set(0, 9));
        Check.query("the highest is kept", 9, x -> x.set(0, 9), x -> careOf(x));
        Check.refused("above", BAD_ARGUMENT, x -> { }, x -> x.set(0, 10));
        Check.refused("below", BAD_ARGUMENT, x -> { }, x -> x.set(0, -1));
        Check.sentence("KEEP (1) is a number from 0 to 99, at first 10.");
        Check.undoable("at first", 10, x -> { }, x -> x.set(1, 0));
        Check.undoable("the highest", 0, x -> x.set(1, 0), x -> x.set(1, 99));
        Check.undoable("from the highest", 99, x -> x.set(1, 99), x -> x.set(1, 10));
        Check.refused("above", BAD_ARGUMENT, x -> { }, x -> x.set(1, 100));
        Check.refused("below", BAD_ARGUMENT, x -> { }, x -> x.set(1, -1));
    }

    /** The value of CARE, with nothing changed after it. */
    private static int careOf(ReelConsole x) {
        int care = x.set(0, 0);
        x.undo();
        return care;
    }

    // ---- section 6

    private static void error(String text, int due) {
        ReelConsole x = new ReelConsole();
        Check.type(x, text);
        Check.due("\"" + text + "\"", due, x.errorPosition());
        Check.due("runText() of \"" + text + "\"", due != NONE, "throws.IllegalStateException"
                .equals(Check.answer(x, ReelConsole::runText)));
    }

    private static void textsFromEmptyToFull() {
        Check.sentence("The text buffer holds at most 80 characters and is empty at first.");
        Check.query("at first", 0, x -> { }, ReelConsole::textLength);
        ReelConsole x = new ReelConsole();
        for (int length = 1; length <= 80; length++) {
            Check.due("character " + length, length, x.appendText('t'));
        }
        Check.due("one more", "throws.IllegalStateException", Check.answer(x, r -> r.appendText('t')));
        Check.due("the length", 80, x.textLength());
        Check.sentence("A valid text consists of one or more commands, with one semicolon between two commands.");
        error("", 0);
        error("d", NONE);
        error("d;d", NONE);
        error("dd", 1);
        error(";d", 0);
        error("d;;d", 2);
        error("d;d;", 4);
        error("d;d;;", 4);
        error(";", 0);
        error("d,d", 1);
        for (char sign = ' '; sign <= '~'; sign++) {
            error(String.valueOf(sign), sign == 'd' ? NONE : "rwct".indexOf(sign) >= 0 ? 1 : 0);
        }
    }

    private static void numbersInTexts() {
        Check.sentence("V, N and P stand for numbers without leading zeros");
        for (int number = 1; number <= 9; number++) {
            error("t0" + number, 1);
            error("r0" + number + "*1", 1);
            error("w1*0" + number, 3);
            error("c60*1!0" + number, 7);
        }
        Check.sentence("a volume V from 1 to 99");
        for (int volume = 0; volume <= 130; volume++) {
            error("r" + volume + "*1", volume == 0 ? 1 : volume > 99 ? 3 : NONE);
        }
        error("w999*1", 3);
        error("w*1", 1);
        Check.sentence("minutes N from 1 to 20");
        for (int minutes = 0; minutes <= 220; minutes++) {
            int due = minutes == 0 ? 3 : minutes <= 20 ? NONE : minutes >= 100 && minutes < 210 ? 5 : 4;
            error("w1*" + minutes, due);
        }
        error("w1*", 3);
        Check.sentence("optionally \"!\" and a priority P, a digit from 0 to 9 (without it the priority is 0)");
        for (int priority = 0; priority <= 9; priority++) {
            error("c60*20!" + priority, NONE);
            error("c60*2!" + priority + priority, 7);
            ReelConsole x = new ReelConsole();
            Check.type(x, "r1*1!" + priority + ";r1*1");
            x.runText();
            Check.due("the priority", priority, x.job(0, 3));
            Check.due("the priority of the next without it", 0, x.job(1, 3));
        }
        error("c60*20!", 7);
        error("c60*20!;d", 7);
        error("c60*20!/", 7);
        error("c60*20!:", 7);
        Check.sentence("\"t\" and a number from 1 to 99: let minutes pass");
        for (int minutes = 0; minutes <= 130; minutes++) {
            error("t" + minutes, minutes == 0 ? 1 : minutes > 99 ? 3 : NONE);
        }
        error("t", 1);
        error("t;d", 1);
    }

    private static void textsOfAnyLength() {
        Check.sentence("the smallest index i such that no valid text of any length begins with the characters 0 to i");
        String days = "d;".repeat(39);
        error(days + "d", NONE);
        error(days + "t9", NONE);
        error(days + "d;", 80);
        error(days + "r1", 80);
        error(days + "dd", 79);
        error(days + "dx", 79);
        error(days + "t0", 79);
        error(days + "tx", 79);
        error(days + "d ", 79);
        error("d;".repeat(36) + "w60*20!9", NONE);
        error("d;".repeat(37) + "w60*20", NONE);
        error("d;".repeat(37) + "w60*21", 79);
        error("d;".repeat(37) + "w60*2!", 80);
        error("x" + days + "d", 0);
        Check.sentence("If there is no such index and the text is not valid (it ends too early, or it is"
                + " empty), the error position is the length of the text.");
        String text = "r10*20!5;t99;d";
        boolean[] complete = new boolean[text.length() + 1];
        int[] ends = {5, 6, 8, 11, 12, 14};
        for (int end : ends) {
            complete[end] = true;
        }
        for (int length = 0; length <= text.length(); length++) {
            error(text.substring(0, length), complete[length] ? NONE : length);
        }
    }

    // ---- sections 7 and 8

    private static void sixSavedStates() {
        Check.sentence("At most 6 states are saved; when a seventh state is saved, the oldest saved state is"
                + " discarded.");
        int[] calls = {0, 1, 5, 6, 7, 8, 11, 12, 13, 19};
        for (int number : calls) {
            ReelConsole x = new ReelConsole();
            for (int call = 1; call <= number; call++) {
                x.nextDay();
                Check.due("saved after " + call, Math.min(6, call), x.savedStates());
            }
            int saved = Math.min(6, number);
            for (int left = saved - 1; left >= 0; left--) {
                Check.due("undo after " + number, left, x.undo());
                Check.due("the day", number - (saved - left), x.count(0));
            }
            Check.due("one undo too many", "throws.IllegalStateException", Check.answer(x, ReelConsole::undo));
            Check.due("the oldest state that was saved", number - saved, x.count(0));
        }
        Check.sentence("saves the state as it was before the call, unless the call throws an exception");
        ReelConsole x = Check.after(r -> {
            for (int day = 0; day < 6; day++) {
                r.nextDay();
            }
        });
        x.clearText();
        for (Check.Call call : REFUSED) {
            Check.due("refused", true, Check.answer(x, call).startsWith("throws."));
        }
        for (int left = 5; left >= 0; left--) {
            Check.due("undo after refused calls", left, x.undo());
        }
        Check.due("the oldest state is still there", 0, x.count(0));
    }

    private static final Check.Call[] REFUSED = {
        x -> x.submit(3, 1, 1, 0), x -> x.cancel(0), x -> x.setSticker(12, 0), x -> x.setSticker(0, 100),
        x -> x.setRing(12, true), x -> x.pass(0), x -> x.set(2, 0), x -> x.set(0, 10), x -> x.runText(),
    };

    private static void savedEvenIfNothingChanges() {
        Check.sentence("It is saved even if the call changes nothing.");
        int[] saved = {0, 5, 6};
        for (int before : saved) {
            Check.Steps steps = x -> {
                for (int call = 0; call < before; call++) {
                    x.setRing(0, call % 2 == 0);
                }
                Check.type(x, "c1*1;d");
            };
            Check.undoable("setSticker to the same", 6, steps, x -> x.setSticker(5, 6));
            Check.undoable("setRing to the same", false, steps, x -> x.setRing(5, false));
            Check.undoable("CARE to the same", 0, steps, x -> x.set(0, 0));
            Check.undoable("KEEP to the same", 10, steps, x -> x.set(1, 10));
            Check.undoable("a text whose first command throws", 0, steps, ReelConsole::runText);
        }
    }

    private static void theFirstExceptionNamed() {
        Check.sentence("If several exceptions apply to a call, the one that is named first in the throws clause of the"
                + " method is thrown.");
        Check.Steps full = x -> {
            for (int job = 0; job < 12; job++) {
                x.submit(READ, 1, 1, 0);
            }
            for (int at = 0; at < 80; at++) {
                x.appendText('d');
            }
        };
        Check.refused("submit to a full room", BAD_ARGUMENT, full, x -> x.submit(READ, 1, 1, 10));
        Check.refused("submit of a kept label", BAD_ARGUMENT, x -> { }, x -> x.submit(CREATE, 1, 21, 0));
        Check.refused("submit beside a waiting CREATE", BAD_ARGUMENT, x -> x.submit(CREATE, 60, 1, 0),
                x -> x.submit(CREATE, 60, 1, -1));
        Check.refused("setSticker", BAD_INDEX, full, x -> x.setSticker(-1, -1));
        Check.refused("setSticker", BAD_INDEX, full, x -> x.setSticker(12, 100));
        Check.refused("set", BAD_INDEX, full, x -> x.set(-1, -1));
        Check.refused("set", BAD_INDEX, full, x -> x.set(2, 100));
        Check.refused("appendText", BAD_ARGUMENT, full, x -> x.appendText(31));
        Check.refused("appendText", BAD_ARGUMENT, full, x -> x.appendText(127));
        Check.refused("reel", BAD_INDEX, full, x -> x.reel(-1, -1));
        Check.refused("reel", BAD_INDEX, full, x -> x.reel(12, 7));
        Check.refused("job", BAD_INDEX, full, x -> x.job(-1, -1));
        Check.refused("job", BAD_INDEX, full, x -> x.job(12, 8));
        Check.refused("job without jobs", BAD_INDEX, x -> { }, x -> x.job(0, 8));
    }
}
