import java.util.ArrayDeque;
import java.util.ArrayList;
import java.util.Deque;
import java.util.List;

/**
 * The document told a second time, in another shape than the program: objects with references, copied whole. The
 * methods bear the names of the face, so that one call can be made on both.
 */
public final class PlainRoom {
    private static final class Reel {
        int number;
        int label;
        int sticker;
        boolean ring;
        int expiry;
        int blocks;
        int drive = -1;
    }

    private static final class Job {
        int number;
        int kind;
        int volume;
        int minutes;
        int priority;
        String state = "waits";
        int blocks;
        int sentBack;
        Reel reel;
    }

    private static final class State {
        final List<Reel> reels = new ArrayList<>();
        final List<Job> jobs = new ArrayList<>();
        int day;
        int[] settings = {0, 10};
        int minutes;
        int mounts;
        int slips;
        int sentBack;
        int read;
        int written;
        int dropped;

        State copy() {
            State copy = new State();
            for (Reel reel : reels) {
                Reel other = new Reel();
                other.number = reel.number;
                other.label = reel.label;
                other.sticker = reel.sticker;
                other.ring = reel.ring;
                other.expiry = reel.expiry;
                other.blocks = reel.blocks;
                other.drive = reel.drive;
                copy.reels.add(other);
            }
            for (Job job : jobs) {
                Job other = new Job();
                other.number = job.number;
                other.kind = job.kind;
                other.volume = job.volume;
                other.minutes = job.minutes;
                other.priority = job.priority;
                other.state = job.state;
                other.blocks = job.blocks;
                other.sentBack = job.sentBack;
                other.reel = job.reel == null ? null : copy.reels.get(job.reel.number);
                copy.jobs.add(other);
            }
            copy.day = day;
            copy.settings = settings.clone();
            copy.minutes = minutes;
            copy.mounts = mounts;
            copy.slips = slips;
            copy.sentBack = sentBack;
            copy.read = read;
            copy.written = written;
            copy.dropped = dropped;
            return copy;
        }
    }

    private State s = new State();
    private final Deque<State> saved = new ArrayDeque<>();
    private String text = "";

    public PlainRoom() {
        for (int number = 0; number < 12; number++) {
            Reel reel = new Reel();
            reel.number = number;
            reel.label = number < 6 ? number + 1 : 0;
            reel.sticker = reel.label;
            s.reels.add(reel);
        }
    }

    private void save() {
        saved.addLast(s.copy());
        if (saved.size() > 6) {
            saved.removeFirst();
        }
    }

    private Reel reelNumbered(int number) {
        if (number < 0 || number > 11) {
            throw new IndexOutOfBoundsException();
        }
        return s.reels.get(number);
    }

    private Job jobNumbered(int number) {
        if (number < 0 || number >= s.jobs.size()) {
            throw new IndexOutOfBoundsException();
        }
        return s.jobs.get(number);
    }

    private boolean scratch(Reel reel) {
        return reel.label == 0 || reel.expiry < s.day;
    }

    private static void argument(boolean right) {
        if (!right) {
            throw new IllegalArgumentException();
        }
    }

    private static void state(boolean right) {
        if (!right) {
            throw new IllegalStateException();
        }
    }

    private int addJob(int kind, int volume, int minutes, int priority) {
        argument(kind >= 0 && kind <= 2);
        argument(volume >= 1 && volume <= 99);
        argument(minutes >= 1 && minutes <= 20);
        argument(priority >= 0 && priority <= 9);
        state(s.jobs.size() < 12);
        if (kind == 2) {
            for (Reel reel : s.reels) {
                state(scratch(reel) || reel.label != volume);
            }
            for (Job other : s.jobs) {
                state(!(other.kind == 2 && other.volume == volume && other.state.equals("waits")));
            }
        }
        Job job = new Job();
        job.number = s.jobs.size();
        job.kind = kind;
        job.volume = volume;
        job.minutes = minutes;
        job.priority = priority;
        s.jobs.add(job);
        return job.number;
    }

    public int submit(int kind, int volume, int minutes, int priority) {
        State before = s.copy();
        int number = addJob(kind, volume, minutes, priority);
        State after = s;
        s = before;
        save();
        s = after;
        return number;
    }

    public int cancel(int number) {
        Job job = jobNumbered(number);
        state(job.state.equals("waits") || job.state.equals("runs"));
        save();
        job.state = "cancelled";
        if (job.reel != null) {
            job.reel.drive = -1;
            job.reel = null;
        }
        return job.blocks;
    }

    public int setSticker(int number, int volume) {
        Reel reel = reelNumbered(number);
        argument(volume >= 0 && volume <= 99);
        save();
        int old = reel.sticker;
        reel.sticker = volume;
        return old;
    }

    public boolean setRing(int number, boolean ring) {
        Reel reel = reelNumbered(number);
        state(reel.drive < 0);
        save();
        boolean old = reel.ring;
        reel.ring = ring;
        return old;
    }

    private List<Reel> shelf() {
        List<Reel> shelf = new ArrayList<>();
        for (Reel reel : s.reels) {
            if (reel.drive < 0) {
                shelf.add(reel);
            }
        }
        return shelf;
    }

    private Reel found(Job job) {
        int wanted = job.kind == 2 ? 0 : job.volume;
        for (Reel reel : shelf()) {
            if (reel.sticker == wanted) {
                return reel;
            }
        }
        return null;
    }

    private Job next() {
        for (int priority = 9; priority >= 0; priority--) {
            for (Job job : s.jobs) {
                if (job.priority == priority && job.state.equals("waits") && found(job) != null) {
                    return job;
                }
            }
        }
        return null;
    }

    private boolean slips(int mount) {
        return s.settings[0] > 0 && mount / s.settings[0] * s.settings[0] == mount;
    }

    private Reel taken(Job job, int mount) {
        Reel found = found(job);
        if (!slips(mount)) {
            return found;
        }
        List<Reel> shelf = shelf();
        return shelf.get((shelf.indexOf(found) + 1) % shelf.size());
    }

    private int told(Job job, Reel reel) {
        boolean[] applies = {
            job.kind != 2 && reel.label != job.volume,
            job.kind == 2 && !scratch(reel),
            job.kind == 0 && reel.ring,
            job.kind != 0 && !reel.ring,
        };
        for (int verdict = 1; verdict <= 4; verdict++) {
            if (applies[verdict - 1]) {
                return verdict;
            }
        }
        return 0;
    }

    private int work() {
        int done = 0;
        for (Job job : s.jobs) {
            if (!job.state.equals("runs")) {
                continue;
            }
            job.blocks++;
            if (job.kind == 0) {
                s.read++;
            } else if (job.reel.blocks == 99) {
                s.dropped++;
            } else {
                job.reel.blocks++;
                s.written++;
            }
            if (job.blocks == job.minutes) {
                job.state = "done";
                job.reel.drive = -1;
                job.reel = null;
                done++;
            }
        }
        return done;
    }

    private void serve() {
        Job job = next();
        int drive = 0;
        while (drive < 3 && reelOn(drive) != -1) {
            drive++;
        }
        if (job == null || drive == 3) {
            return;
        }
        s.mounts++;
        Reel reel = taken(job, s.mounts);
        if (slips(s.mounts)) {
            s.slips++;
        } else {
            reel.ring = job.kind != 0;
        }
        if (told(job, reel) != 0) {
            s.sentBack++;
            job.sentBack++;
            reel.sticker = scratch(reel) ? 0 : reel.label;
            return;
        }
        reel.drive = drive;
        job.reel = reel;
        job.state = "runs";
        if (job.kind == 2) {
            reel.label = job.volume;
            reel.sticker = job.volume;
            reel.expiry = s.day + s.settings[1];
            reel.blocks = 0;
        }
    }

    private int letPass(int minutes) {
        int done = 0;
        for (int left = minutes; left > 0; left--) {
            s.minutes++;
            done += work();
            serve();
        }
        return done;
    }

    public int pass(int minutes) {
        argument(minutes >= 1 && minutes <= 99);
        save();
        return letPass(minutes);
    }

    public int nextDay() {
        state(s.day < 999);
        save();
        return ++s.day;
    }

    public int set(int setting, int value) {
        if (setting < 0 || setting > 1) {
            throw new IndexOutOfBoundsException();
        }
        argument(value >= 0 && value <= (setting == 0 ? 9 : 99));
        save();
        int old = s.settings[setting];
        s.settings[setting] = value;
        return old;
    }

    public int appendText(int character) {
        argument(character >= 32 && character <= 126);
        state(text.length() < 80);
        text += (char) character;
        return text.length();
    }

    public int clearText() {
        int old = text.length();
        text = "";
        return old;
    }

    public int errorPosition() {
        return Grammar.errorPosition(text);
    }

    public int runText() {
        state(errorPosition() == -1);
        save();
        int executed = 0;
        for (String command : text.split(";")) {
            try {
                execute(command);
            } catch (IllegalStateException e) {
                break;
            }
            executed++;
        }
        return executed;
    }

    private void execute(String command) {
        if (command.equals("d")) {
            state(s.day < 999);
            s.day++;
        } else if (command.startsWith("t")) {
            letPass(Integer.parseInt(command.substring(1)));
        } else {
            String[] numbers = command.substring(1).split("[*!]");
            addJob("rwc".indexOf(command.charAt(0)), Integer.parseInt(numbers[0]), Integer.parseInt(numbers[1]),
                    numbers.length == 3 ? Integer.parseInt(numbers[2]) : 0);
        }
    }

    public int undo() {
        state(!saved.isEmpty());
        s = saved.removeLast();
        return saved.size();
    }

    public int reel(int number, int part) {
        Reel reel = reelNumbered(number);
        argument(part >= 0 && part <= 6);
        int[] parts = {reel.label, reel.sticker, reel.ring ? 1 : 0, reel.expiry, reel.blocks, reel.drive,
            scratch(reel) ? 1 : 0};
        return parts[part];
    }

    public int reelOn(int drive) {
        if (drive < 0 || drive > 2) {
            throw new IndexOutOfBoundsException();
        }
        for (Reel reel : s.reels) {
            if (reel.drive == drive) {
                return reel.number;
            }
        }
        return -1;
    }

    public int scratchReels() {
        return (int) s.reels.stream().filter(this::scratch).count();
    }

    public int jobs() {
        return s.jobs.size();
    }

    public int job(int number, int part) {
        Job job = jobNumbered(number);
        argument(part >= 0 && part <= 7);
        int[] parts = {job.kind, job.volume, job.minutes, job.priority,
            List.of("waits", "runs", "done", "cancelled").indexOf(job.state), job.blocks,
            job.reel == null ? -1 : job.reel.number, job.sentBack};
        return parts[part];
    }

    public boolean isStuck(int number) {
        Job job = jobNumbered(number);
        return job.state.equals("waits") && found(job) == null;
    }

    public int verdict(int job, int reel) {
        return told(jobNumbered(job), reelNumbered(reel));
    }

    public int nextJob() {
        Job job = next();
        return job == null ? -1 : job.number;
    }

    public int nextReel() {
        Job job = next();
        return job == null ? -1 : taken(job, s.mounts + 1).number;
    }

    public int minutesToDone(int number) {
        if (jobNumbered(number).state.equals("cancelled")) {
            return -1;
        }
        State now = s;
        s = now.copy();
        int minutes = 0;
        while (minutes <= 300 && !s.jobs.get(number).state.equals("done")) {
            letPass(1);
            minutes++;
        }
        s = now;
        return minutes > 300 ? -1 : minutes;
    }

    private int in(String state) {
        return (int) s.jobs.stream().filter(job -> job.state.equals(state)).count();
    }

    public int count(int what) {
        argument(what >= 0 && what <= 10);
        int[] counts = {s.day, s.minutes, s.mounts, s.slips, s.sentBack, s.read, s.written, s.dropped, in("waits"),
            in("runs"), in("done")};
        return counts[what];
    }

    public double success() {
        return s.mounts == 0 ? 1.0 : (double) (s.mounts - s.sentBack) / (double) s.mounts;
    }

    public int savedStates() {
        return saved.size();
    }

    public int textLength() {
        return text.length();
    }
}
