/** Promise 1, and the face: exactly the constants, the constructor and the methods of the document. */
public final class NewObjectTest {
    private static final String[] METHODS = {
        "int submit(int, int, int, int) IllegalArgumentException IllegalStateException",
        "int cancel(int) IndexOutOfBoundsException IllegalStateException",
        "int setSticker(int, int) IndexOutOfBoundsException IllegalArgumentException",
        "boolean setRing(int, boolean) IndexOutOfBoundsException IllegalStateException",
        "int pass(int) IllegalArgumentException",
        "int nextDay() IllegalStateException",
        "int set(int, int) IndexOutOfBoundsException IllegalArgumentException",
        "int appendText(int) IllegalArgumentException IllegalStateException",
        "int clearText()",
        "int errorPosition()",
        "int runText() IllegalStateException",
        "int undo() IllegalStateException",
        "int reel(int, int) IndexOutOfBoundsException IllegalArgumentException",
        "int reelOn(int) IndexOutOfBoundsException",
        "int scratchReels()",
        "int jobs()",
        "int job(int, int) IndexOutOfBoundsException IllegalArgumentException",
        "boolean isStuck(int) IndexOutOfBoundsException",
        "int verdict(int, int) IndexOutOfBoundsException",
        "int nextJob()",
        "int nextReel()",
        "int minutesToDone(int) IndexOutOfBoundsException",
        "int count(int) IllegalArgumentException",
        "double success()",
        "int savedStates()",
        "int textLength()",
    };

    public static void main(String[] args) {
        aNewRoomIsEmpty();
        twoRoomsAreApart();
        theConstantsAreDue();
        theFaceIsDue();
        Check.end("NewObjectTest");
    }

    private static void aNewRoomIsEmpty() {
        ReelConsole x = new ReelConsole();
        for (int reel = 0; reel < 12; reel++) {
            int volume = reel < 6 ? reel + 1 : 0;
            int[] parts = {volume, volume, 0, 0, 0, ReelConsole.NONE, reel < 6 ? 0 : 1};
            for (int part = 0; part < parts.length; part++) {
                Check.due("reel(" + reel + ", " + part + ")", parts[part], x.reel(reel, part));
            }
        }
        for (int drive = 0; drive < 3; drive++) {
            Check.due("reelOn(" + drive + ")", ReelConsole.NONE, x.reelOn(drive));
        }
        for (int what = 0; what <= 10; what++) {
            Check.due("count(" + what + ")", 0, x.count(what));
        }
        Check.due("jobs()", 0, x.jobs());
        Check.due("scratchReels()", 6, x.scratchReels());
        Check.due("nextJob()", ReelConsole.NONE, x.nextJob());
        Check.due("nextReel()", ReelConsole.NONE, x.nextReel());
        Check.due("success()", 1.0, x.success());
        Check.due("savedStates()", 0, x.savedStates());
        Check.due("textLength()", 0, x.textLength());
        Check.due("errorPosition()", 0, x.errorPosition());
        Check.due("CARE at first", 0, x.set(0, 0));
        Check.due("KEEP at first", 10, x.set(1, 10));
    }

    private static void twoRoomsAreApart() {
        ReelConsole one = new ReelConsole();
        one.submit(ReelConsole.READ, 1, 1, 0);
        one.setSticker(0, 9);
        one.nextDay();
        one.appendText('d');
        Check.due("a room beside another", Check.view(Check.after(x -> { })), Check.view(new ReelConsole()));
        Check.due("a new room beside a used one", 0, new ReelConsole().jobs());
    }

    private static void theConstantsAreDue() {
        Check.due("NONE", -1, ReelConsole.NONE);
        Check.due("READ", 0, ReelConsole.READ);
        Check.due("WRITE", 1, ReelConsole.WRITE);
        Check.due("CREATE", 2, ReelConsole.CREATE);
    }

    private static void theFaceIsDue() {
        java.util.Set<String> due = new java.util.TreeSet<>(java.util.List.of(METHODS));
        java.util.Set<String> found = new java.util.TreeSet<>();
        for (java.lang.reflect.Method method : ReelConsole.class.getDeclaredMethods()) {
            if (!java.lang.reflect.Modifier.isPrivate(method.getModifiers())) {
                found.add(described(method));
            }
        }
        Check.due("the methods", due, found);
        java.util.Set<String> fields = new java.util.TreeSet<>();
        for (java.lang.reflect.Field field : ReelConsole.class.getDeclaredFields()) {
            if (!java.lang.reflect.Modifier.isPrivate(field.getModifiers())) {
                fields.add(java.lang.reflect.Modifier.toString(field.getModifiers()) + " " + field.getType()
                        + " " + field.getName());
            }
        }
        Check.due("the fields", new java.util.TreeSet<>(java.util.List.of("public static final int NONE",
                "public static final int READ", "public static final int WRITE", "public static final int CREATE")),
                fields);
        Check.due("the constructors", 1, ReelConsole.class.getDeclaredConstructors().length);
        Check.due("the class", "public final", java.lang.reflect.Modifier.toString(ReelConsole.class.getModifiers()));
    }

    private static String described(java.lang.reflect.Method method) {
        StringBuilder text = new StringBuilder();
        text.append(method.getReturnType()).append(' ').append(method.getName()).append('(');
        String gap = "";
        for (Class<?> parameter : method.getParameterTypes()) {
            text.append(gap).append(parameter);
            gap = ", ";
        }
        text.append(')');
        for (Class<?> exception : method.getExceptionTypes()) {
            text.append(' ').append(exception.getSimpleName());
        }
        return text.toString();
    }
}
