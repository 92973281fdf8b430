/**
 * A tape room: reels, jobs that ask for them at a console, and an operator who mounts them.
 *
 * The numbered promises that this class keeps stand in ../shared/DOC.md.
 */
public final class ReelConsole {
    public static final int NONE = -1;
    public static final int READ = 0, WRITE = 1, CREATE = 2;

    private static final int REELS = 12;
    private static final int LABELLED_REELS = 6;
    private static final int DRIVES = 3;
    private static final int MAX_VOLUME = 99;
    private static final int MAX_BLOCKS = 99;
    private static final int BLANK = 0;

    private static final int MAX_JOBS = 12;
    private static final int MAX_JOB_MINUTES = 20;
    private static final int MAX_PRIORITY = 9;
    private static final int WAITING = 0, RUNNING = 1, DONE = 2, CANCELLED = 3;

    private static final int ACCEPTED = 0, WRONG_LABEL = 1, NOT_SCRATCH = 2, RING_IN = 3, RING_OUT = 4;

    private static final int CARE = 0, KEEP = 1;
    private static final int MAX_CARE = 9;
    private static final int MAX_KEEP = 99;
    private static final int FIRST_KEEP = 10;
    private static final int MAX_DAY = 999;
    private static final int MAX_PASS = 99;
    private static final int FORECAST_MINUTES = 300;

    private static final int MAX_TEXT = 80;
    private static final int FIRST_CHARACTER = 32, LAST_CHARACTER = 126;
    private static final int MAX_SAVED = 6;

    private final Room room;
    /** Minutes that only might pass run here, so that a query changes nothing in the room itself. */
    private final Room trial;
    private final History history;
    private final CommandText text;

    public ReelConsole() {
        room = new Room();
        trial = new Room();
        history = new History();
        text = new CommandText();
    }

    // ---- jobs

    public int submit(int kind, int volume, int minutes, int priority)
            throws IllegalArgumentException, IllegalStateException {
        if (!isWithin(kind, READ, CREATE) || !isWithin(volume, 1, MAX_VOLUME)
                || !isWithin(minutes, 1, MAX_JOB_MINUTES) || !isWithin(priority, 0, MAX_PRIORITY)) {
            throw new IllegalArgumentException("an argument is out of range");
        }
        if (!room.takesJob(kind, volume)) {
            throw new IllegalStateException("the room takes no such job now");
        }
        history.save(room);
        return room.jobs.add(kind, volume, minutes, priority);
    }

    public int cancel(int job) throws IndexOutOfBoundsException, IllegalStateException {
        if (!room.jobs.has(job)) {
            throw new IndexOutOfBoundsException("no such job");
        }
        if (room.jobs.states[job] != WAITING && room.jobs.states[job] != RUNNING) {
            throw new IllegalStateException("the job neither waits nor runs");
        }
        history.save(room);
        room.endJob(job, CANCELLED);
        return room.jobs.blocks[job];
    }

    // ---- reels

    public int setSticker(int reel, int volume) throws IndexOutOfBoundsException, IllegalArgumentException {
        if (!isReel(reel)) {
            throw new IndexOutOfBoundsException("no such reel");
        }
        if (!isWithin(volume, BLANK, MAX_VOLUME)) {
            throw new IllegalArgumentException("the volume is out of range");
        }
        history.save(room);
        int previous = room.reels.stickers[reel];
        room.reels.stickers[reel] = volume;
        return previous;
    }

    public boolean setRing(int reel, boolean ring) throws IndexOutOfBoundsException, IllegalStateException {
        if (!isReel(reel)) {
            throw new IndexOutOfBoundsException("no such reel");
        }
        if (room.reels.drives[reel] != NONE) {
            throw new IllegalStateException("the reel is on a drive");
        }
        history.save(room);
        boolean previous = room.reels.rings[reel];
        room.reels.rings[reel] = ring;
        return previous;
    }

    // ---- time, settings

    public int pass(int minutes) throws IllegalArgumentException {
        if (!isWithin(minutes, 1, MAX_PASS)) {
            throw new IllegalArgumentException("the number of minutes is out of range");
        }
        history.save(room);
        return room.runMinutes(minutes);
    }

    public int nextDay() throws IllegalStateException {
        if (!room.hasNextDay()) {
            throw new IllegalStateException("this is the last day");
        }
        history.save(room);
        room.day++;
        return room.day;
    }

    public int set(int setting, int value) throws IndexOutOfBoundsException, IllegalArgumentException {
        if (setting != CARE && setting != KEEP) {
            throw new IndexOutOfBoundsException("no such setting");
        }
        if (!isWithin(value, 0, setting == CARE ? MAX_CARE : MAX_KEEP)) {
            throw new IllegalArgumentException("the value is out of the range of the setting");
        }
        history.save(room);
        int previous;
        if (setting == CARE) {
            previous = room.care;
            room.care = value;
        } else {
            previous = room.keep;
            room.keep = value;
        }
        return previous;
    }

    // ---- texts

    public int appendText(int character) throws IllegalArgumentException, IllegalStateException {
        if (!isWithin(character, FIRST_CHARACTER, LAST_CHARACTER)) {
            throw new IllegalArgumentException("the character code is out of range");
        }
        if (text.length >= MAX_TEXT) {
            throw new IllegalStateException("the text is full");
        }
        text.append(character);
        return text.length;
    }

    public int clearText() {
        int previous = text.length;
        text.length = 0;
        return previous;
    }

    public int errorPosition() {
        return text.findError();
    }

    public int runText() throws IllegalStateException {
        if (text.findError() != NONE) {
            throw new IllegalStateException("the text is not valid");
        }
        history.save(room);
        text.rewind();
        int executed = 0;
        while (executed < MAX_TEXT && text.readCommand() && execute()) {
            executed++;
            text.skip(';');
        }
        return executed;
    }

    /** Executes the command that was read last; false, with nothing changed, if its method would throw. */
    private boolean execute() {
        switch (text.command) {
            case 't':
                room.runMinutes(text.minutes);
                return true;
            case 'd':
                if (!room.hasNextDay()) {
                    return false;
                }
                room.day++;
                return true;
            default:
                if (!room.takesJob(text.kind, text.volume)) {
                    return false;
                }
                room.jobs.add(text.kind, text.volume, text.minutes, text.priority);
                return true;
        }
    }

    // ---- undo

    public int undo() throws IllegalStateException {
        if (history.size <= 0) {
            throw new IllegalStateException("there is no saved state");
        }
        history.restore(room);
        return history.size;
    }

    // ---- queries about reels; queries change nothing

    public int reel(int reel, int part) throws IndexOutOfBoundsException, IllegalArgumentException {
        if (!isReel(reel)) {
            throw new IndexOutOfBoundsException("no such reel");
        }
        switch (part) {
            case 0: return room.reels.labels[reel];
            case 1: return room.reels.stickers[reel];
            case 2: return room.reels.rings[reel] ? 1 : 0;
            case 3: return room.reels.expiryDays[reel];
            case 4: return room.reels.blocks[reel];
            case 5: return room.reels.drives[reel];
            case 6: return room.reels.isScratch(reel, room.day) ? 1 : 0;
            default: throw new IllegalArgumentException("no such part of a reel");
        }
    }

    public int reelOn(int drive) throws IndexOutOfBoundsException {
        if (!isWithin(drive, 0, DRIVES - 1)) {
            throw new IndexOutOfBoundsException("no such drive");
        }
        return room.reels.findOn(drive);
    }

    public int scratchReels() {
        int scratch = 0;
        for (int reel = 0; reel < REELS; reel++) {
            if (room.reels.isScratch(reel, room.day)) {
                scratch++;
            }
        }
        return scratch;
    }

    // ---- queries about jobs

    public int jobs() {
        return room.jobs.number;
    }

    public int job(int job, int part) throws IndexOutOfBoundsException, IllegalArgumentException {
        if (!room.jobs.has(job)) {
            throw new IndexOutOfBoundsException("no such job");
        }
        switch (part) {
            case 0: return room.jobs.kinds[job];
            case 1: return room.jobs.volumes[job];
            case 2: return room.jobs.minutes[job];
            case 3: return room.jobs.priorities[job];
            case 4: return room.jobs.states[job];
            case 5: return room.jobs.blocks[job];
            case 6: return room.jobs.mounted[job];
            case 7: return room.jobs.sentBack[job];
            default: throw new IllegalArgumentException("no such part of a job");
        }
    }

    public boolean isStuck(int job) throws IndexOutOfBoundsException {
        if (!room.jobs.has(job)) {
            throw new IndexOutOfBoundsException("no such job");
        }
        return room.jobs.states[job] == WAITING && room.lacksReel(job);
    }

    public int verdict(int job, int reel) throws IndexOutOfBoundsException {
        if (!room.jobs.has(job) || !isReel(reel)) {
            throw new IndexOutOfBoundsException("no such job or reel");
        }
        return room.check(job, reel);
    }

    // ---- queries about what would happen

    public int nextJob() {
        return room.findNextJob();
    }

    public int nextReel() {
        int job = room.findNextJob();
        return job == NONE ? NONE : room.chooseReel(job, room.isSlip(room.mounts + 1));
    }

    public int minutesToDone(int job) throws IndexOutOfBoundsException {
        if (!room.jobs.has(job)) {
            throw new IndexOutOfBoundsException("no such job");
        }
        if (room.jobs.states[job] == DONE) {
            return 0;
        }
        if (room.jobs.states[job] == CANCELLED) {
            return NONE;
        }
        trial.copyFrom(room);
        for (int minute = 1; minute <= FORECAST_MINUTES; minute++) {
            trial.runMinute();
            if (trial.jobs.states[job] == DONE) {
                return minute;
            }
        }
        return NONE;
    }

    // ---- counts

    public int count(int what) throws IllegalArgumentException {
        switch (what) {
            case 0: return room.day;
            case 1: return room.minutes;
            case 2: return room.mounts;
            case 3: return room.slips;
            case 4: return room.sentBack;
            case 5: return room.blocksRead;
            case 6: return room.blocksWritten;
            case 7: return room.blocksDropped;
            case 8: return room.jobs.countIn(WAITING);
            case 9: return room.jobs.countIn(RUNNING);
            case 10: return room.jobs.countIn(DONE);
            default: throw new IllegalArgumentException("no such count");
        }
    }

    public double success() {
        if (room.mounts == 0) {
            return 1.0;
        }
        return (double) (room.mounts - room.sentBack) / (double) room.mounts;
    }

    public int savedStates() {
        return history.size;
    }

    public int textLength() {
        return text.length;
    }

    private static boolean isWithin(int value, int lowest, int highest) {
        return value >= lowest && value <= highest;
    }

    private static boolean isReel(int reel) {
        return isWithin(reel, 0, REELS - 1);
    }

    /** The reels, one column a property: the place r of each column belongs to the reel r. */
    private static final class Reels {
        final int[] labels = new int[REELS];
        final int[] stickers = new int[REELS];
        final boolean[] rings = new boolean[REELS];
        final int[] expiryDays = new int[REELS];
        final int[] blocks = new int[REELS];
        /** The drive that a reel is on, NONE on the shelf. */
        final int[] drives = new int[REELS];

        Reels() {
            for (int reel = 0; reel < REELS; reel++) {
                int volume = reel < LABELLED_REELS ? reel + 1 : BLANK;
                labels[reel] = volume;
                stickers[reel] = volume;
                drives[reel] = NONE;
            }
        }

        void copyFrom(Reels other) {
            System.arraycopy(other.labels, 0, labels, 0, REELS);
            System.arraycopy(other.stickers, 0, stickers, 0, REELS);
            for (int reel = 0; reel < REELS; reel++) {
                rings[reel] = other.rings[reel];
            }
            System.arraycopy(other.expiryDays, 0, expiryDays, 0, REELS);
            System.arraycopy(other.blocks, 0, blocks, 0, REELS);
            System.arraycopy(other.drives, 0, drives, 0, REELS);
        }

        boolean isScratch(int reel, int day) {
            return labels[reel] == BLANK || expiryDays[reel] < day;
        }

        /** Whether a reel that is not scratch has this label. */
        boolean keepsLabel(int volume, int day) {
            for (int reel = 0; reel < REELS; reel++) {
                if (labels[reel] == volume && !isScratch(reel, day)) {
                    return true;
                }
            }
            return false;
        }

        int findOn(int drive) {
            for (int reel = 0; reel < REELS; reel++) {
                if (drives[reel] == drive) {
                    return reel;
                }
            }
            return NONE;
        }

        int findEmptyDrive() {
            for (int drive = 0; drive < DRIVES; drive++) {
                if (findOn(drive) == NONE) {
                    return drive;
                }
            }
            return NONE;
        }

        int findOnShelf(int sticker) {
            for (int reel = 0; reel < REELS; reel++) {
                if (drives[reel] == NONE && stickers[reel] == sticker) {
                    return reel;
                }
            }
            return NONE;
        }

        /** The reel that is next after this one on the shelf; behind the last the first is next. */
        int findNextOnShelf(int reel) {
            int first = NONE;
            for (int next = 0; next < REELS; next++) {
                if (drives[next] == NONE) {
                    if (next > reel) {
                        return next;
                    }
                    if (first == NONE) {
                        first = next;
                    }
                }
            }
            return first;
        }
    }

    /** The jobs, one column a property: the place j of each column belongs to the job j. */
    private static final class Jobs {
        final int[] kinds = new int[MAX_JOBS];
        final int[] volumes = new int[MAX_JOBS];
        final int[] minutes = new int[MAX_JOBS];
        final int[] priorities = new int[MAX_JOBS];
        final int[] states = new int[MAX_JOBS];
        final int[] blocks = new int[MAX_JOBS];
        /** The reel that a running job works on, NONE for any other job. */
        final int[] mounted = new int[MAX_JOBS];
        final int[] sentBack = new int[MAX_JOBS];
        int number = 0;

        void copyFrom(Jobs other) {
            System.arraycopy(other.kinds, 0, kinds, 0, MAX_JOBS);
            System.arraycopy(other.volumes, 0, volumes, 0, MAX_JOBS);
            System.arraycopy(other.minutes, 0, minutes, 0, MAX_JOBS);
            System.arraycopy(other.priorities, 0, priorities, 0, MAX_JOBS);
            System.arraycopy(other.states, 0, states, 0, MAX_JOBS);
            System.arraycopy(other.blocks, 0, blocks, 0, MAX_JOBS);
            System.arraycopy(other.mounted, 0, mounted, 0, MAX_JOBS);
            System.arraycopy(other.sentBack, 0, sentBack, 0, MAX_JOBS);
            number = other.number;
        }

        boolean has(int job) {
            return isWithin(job, 0, number - 1);
        }

        boolean isFull() {
            return number >= MAX_JOBS;
        }

        /** Adds a waiting job and answers its number. */
        int add(int kind, int volume, int length, int priority) {
            if (isFull()) {
                return NONE;
            }
            int job = number;
            number++;
            kinds[job] = kind;
            volumes[job] = volume;
            minutes[job] = length;
            priorities[job] = priority;
            states[job] = WAITING;
            blocks[job] = 0;
            mounted[job] = NONE;
            sentBack[job] = 0;
            return job;
        }

        int countIn(int state) {
            int found = 0;
            for (int job = 0; job < number; job++) {
                if (states[job] == state) {
                    found++;
                }
            }
            return found;
        }

        int wantedSticker(int job) {
            return kinds[job] == CREATE ? BLANK : volumes[job];
        }

        boolean hasWaitingCreate(int volume) {
            for (int job = 0; job < number; job++) {
                if (states[job] == WAITING && kinds[job] == CREATE && volumes[job] == volume) {
                    return true;
                }
            }
            return false;
        }
    }

    /** All that undo brings back: the reels, the jobs, the day, the settings and the counts. */
    private static final class Room {
        final Reels reels = new Reels();
        final Jobs jobs = new Jobs();
        int day = 0;
        int care = 0;
        int keep = FIRST_KEEP;
        int minutes = 0;
        int mounts = 0;
        int slips = 0;
        int sentBack = 0;
        int blocksRead = 0;
        int blocksWritten = 0;
        int blocksDropped = 0;

        void copyFrom(Room other) {
            reels.copyFrom(other.reels);
            jobs.copyFrom(other.jobs);
            day = other.day;
            care = other.care;
            keep = other.keep;
            minutes = other.minutes;
            mounts = other.mounts;
            slips = other.slips;
            sentBack = other.sentBack;
            blocksRead = other.blocksRead;
            blocksWritten = other.blocksWritten;
            blocksDropped = other.blocksDropped;
        }

        boolean hasNextDay() {
            return day < MAX_DAY;
        }

        boolean takesJob(int kind, int volume) {
            if (jobs.isFull()) {
                return false;
            }
            return kind != CREATE || !reels.keepsLabel(volume, day) && !jobs.hasWaitingCreate(volume);
        }

        /** Ends a job in the state given; the reel of a running job goes back to the shelf. */
        void endJob(int job, int state) {
            int reel = jobs.mounted[job];
            if (isReel(reel)) {
                reels.drives[reel] = NONE;
            }
            jobs.mounted[job] = NONE;
            jobs.states[job] = state;
        }

        /** Lets minutes pass and answers how many jobs became done in them. */
        int runMinutes(int number) {
            int done = 0;
            for (int minute = 0; minute < number; minute++) {
                done += runMinute();
            }
            return done;
        }

        /** Lets one minute pass and answers how many jobs became done in it. */
        int runMinute() {
            minutes++;
            int done = 0;
            for (int job = 0; job < jobs.number; job++) {
                if (jobs.states[job] == RUNNING) {
                    moveBlock(job);
                    if (jobs.blocks[job] >= jobs.minutes[job]) {
                        endJob(job, DONE);
                        done++;
                    }
                }
            }
            int drive = reels.findEmptyDrive();
            int next = drive == NONE ? NONE : findNextJob();
            if (next != NONE) {
                serve(next, drive);
            }
            return done;
        }

        /** A running job reads or writes one block; a dropped block is one that the job has done, too. */
        void moveBlock(int job) {
            int reel = jobs.mounted[job];
            jobs.blocks[job]++;
            if (jobs.kinds[job] == READ) {
                blocksRead++;
            } else if (isReel(reel) && reels.blocks[reel] < MAX_BLOCKS) {
                reels.blocks[reel]++;
                blocksWritten++;
            } else {
                blocksDropped++;
            }
        }

        /** Whether no reel on the shelf has the sticker that the job wants. */
        boolean lacksReel(int job) {
            return reels.findOnShelf(jobs.wantedSticker(job)) == NONE;
        }

        int findNextJob() {
            int next = NONE;
            int highest = NONE;
            for (int job = 0; job < jobs.number; job++) {
                if (jobs.states[job] == WAITING && jobs.priorities[job] > highest && !lacksReel(job)) {
                    next = job;
                    highest = jobs.priorities[job];
                }
            }
            return next;
        }

        boolean isSlip(int mount) {
            return care != 0 && mount % care == 0;
        }

        /** The reel that the operator takes for a waiting job; NONE if the job is stuck. */
        int chooseReel(int job, boolean slip) {
            int found = reels.findOnShelf(jobs.wantedSticker(job));
            return slip && found != NONE ? reels.findNextOnShelf(found) : found;
        }

        void serve(int job, int drive) {
            mounts++;
            boolean slip = isSlip(mounts);
            int reel = chooseReel(job, slip);
            if (!isReel(reel)) {
                return;
            }
            if (slip) {
                slips++;
            } else {
                reels.rings[reel] = jobs.kinds[job] != READ;
            }
            if (check(job, reel) == ACCEPTED) {
                mount(job, reel, drive);
            } else {
                sendBack(job, reel);
            }
        }

        /** What a check of the reel for the job tells, with the ring as it is. */
        int check(int job, int reel) {
            int kind = jobs.kinds[job];
            if (kind != CREATE && reels.labels[reel] != jobs.volumes[job]) {
                return WRONG_LABEL;
            }
            if (kind == CREATE && !reels.isScratch(reel, day)) {
                return NOT_SCRATCH;
            }
            if (kind == READ && reels.rings[reel]) {
                return RING_IN;
            }
            if (kind != READ && !reels.rings[reel]) {
                return RING_OUT;
            }
            return ACCEPTED;
        }

        void mount(int job, int reel, int drive) {
            reels.drives[reel] = drive;
            jobs.mounted[job] = reel;
            jobs.states[job] = RUNNING;
            if (jobs.kinds[job] == CREATE) {
                reels.labels[reel] = jobs.volumes[job];
                reels.stickers[reel] = jobs.volumes[job];
                reels.expiryDays[reel] = day + keep;
                reels.blocks[reel] = 0;
            }
        }

        void sendBack(int job, int reel) {
            sentBack++;
            jobs.sentBack[job]++;
            reels.stickers[reel] = reels.isScratch(reel, day) ? BLANK : reels.labels[reel];
        }
    }

    /** The saved states, in slots that are used in turn, so that the oldest one is overwritten. */
    private static final class History {
        final Room[] slots = new Room[MAX_SAVED];
        int size = 0;
        int nextSlot = 0;

        History() {
            for (int slot = 0; slot < MAX_SAVED; slot++) {
                slots[slot] = new Room();
            }
        }

        void save(Room room) {
            Room slot = slots[nextSlot];
            if (slot == null) {
                return;
            }
            slot.copyFrom(room);
            nextSlot = Math.floorMod(nextSlot + 1, MAX_SAVED);
            if (size < MAX_SAVED) {
                size++;
            }
        }

        /** Brings the room back to the state that was saved last, and forgets that state. */
        void restore(Room room) {
            nextSlot = Math.floorMod(nextSlot - 1, MAX_SAVED);
            size--;
            Room slot = slots[nextSlot];
            if (slot != null) {
                room.copyFrom(slot);
            }
        }
    }

    /** The text buffer, and a reader of its commands that stops where no valid text goes on. */
    private static final class CommandText {
        final int[] characters = new int[MAX_TEXT];
        int length = 0;
        int position = 0;

        /** The letter and the numbers of the command that was read last. */
        int command = 0;
        int kind = READ;
        int volume = 0;
        int minutes = 0;
        int priority = 0;

        void append(int character) {
            if (length < MAX_TEXT) {
                characters[length] = character;
                length++;
            }
        }

        void rewind() {
            position = 0;
        }

        /** NONE if the text is valid, otherwise the position where it goes wrong or ends too early. */
        int findError() {
            rewind();
            for (int commands = 0; commands < MAX_TEXT; commands++) {
                if (!readCommand()) {
                    return position;
                }
                if (position >= length) {
                    return NONE;
                }
                if (!skip(';')) {
                    return position;
                }
            }
            return position;
        }

        /** Reads a command; if there is none, answers false and stays where the text goes wrong. */
        boolean readCommand() {
            command = characterHere();
            switch (command) {
                case 'r': return readSubmission(READ);
                case 'w': return readSubmission(WRITE);
                case 'c': return readSubmission(CREATE);
                case 't':
                    position++;
                    minutes = readNumber(MAX_PASS);
                    return minutes > 0;
                case 'd':
                    position++;
                    return true;
                default: return false;
            }
        }

        /** Reads the rest of a submission, standing on its letter. */
        boolean readSubmission(int kindOfLetter) {
            position++;
            kind = kindOfLetter;
            volume = readNumber(MAX_VOLUME);
            if (volume == 0 || !skip('*')) {
                return false;
            }
            minutes = readNumber(MAX_JOB_MINUTES);
            priority = 0;
            return minutes > 0 && (!skip('!') || readPriority());
        }

        boolean readPriority() {
            int digit = digitHere();
            if (digit == NONE) {
                return false;
            }
            priority = digit;
            position++;
            return true;
        }

        /** Reads a number from 1 to the highest one without leading zeros; 0 if there is none. */
        int readNumber(int highest) {
            int number = 0;
            while (position < length) {
                int digit = digitHere();
                int longer = number * 10 + digit;
                if (digit == NONE || longer == 0 || longer > highest) {
                    break;
                }
                number = longer;
                position++;
            }
            return number;
        }

        /** Goes past this character, if it stands here. */
        boolean skip(char character) {
            if (characterHere() != character) {
                return false;
            }
            position++;
            return true;
        }

        int digitHere() {
            int character = characterHere();
            return isWithin(character, '0', '9') ? character - '0' : NONE;
        }

        /** The character that is read next; NONE at the end of the text. */
        int characterHere() {
            return position >= 0 && position < length ? characters[position] : NONE;
        }
    }
}
