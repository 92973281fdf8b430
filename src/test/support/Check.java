import java.util.Objects;

/** What the tests share: comparing answers, and looking at all that a call may have changed. */
final class Check {
    interface Call {
        Object on(ReelConsole x);
    }

    interface Steps {
        void on(ReelConsole x);
    }

    private static int wrong = 0;
    private static String sentence = "";

    private Check() {
    }

    static void due(String what, Object want, Object got) {
        if (!Objects.equals(want, got)) {
            wrong++;
            System.out.println(sentence + what + " answered " + got + ", due is " + want);
        }
    }

    /** The words of the document that the checks from here on hold the program to. */
    static void sentence(String words) {
        sentence = "\"" + words + "\": ";
    }

    /** The answer of a call as a text: "throws.X" with the exact class of an exception. */
    static String answer(ReelConsole x, Call call) {
        try {
            return String.valueOf(call.on(x));
        } catch (RuntimeException e) {
            return "throws." + e.getClass().getSimpleName();
        }
    }

    static ReelConsole after(Steps steps) {
        ReelConsole x = new ReelConsole();
        steps.on(x);
        return x;
    }

    /**
     * The call throws this very exception after the steps, and changes nothing. Two objects are compared, since one
     * object may be asked only 512 times.
     */
    static void refused(String what, Class<? extends RuntimeException> due, Steps steps, Call call) {
        ReelConsole touched = after(steps);
        due(what, "throws." + due.getSimpleName(), answer(touched, call));
        ReelConsole untouched = after(steps);
        due(what + ", the state after it", view(untouched), view(touched));
        due(what + ", an undo after it", answer(untouched, ReelConsole::undo), answer(touched, ReelConsole::undo));
        due(what + ", the state after the undo", brief(untouched), brief(touched));
    }

    /** The call answers this after the steps, and saves one state, which undo brings back. */
    static void undoable(String what, Object due, Steps steps, Call call) {
        ReelConsole touched = after(steps);
        ReelConsole untouched = after(steps);
        int saved = untouched.savedStates();
        due(what, String.valueOf(due), answer(touched, call));
        due(what + ", saved states", Math.min(6, saved + 1), touched.savedStates());
        due(what + ", undo", String.valueOf(Math.min(5, saved)), answer(touched, ReelConsole::undo));
        due(what + ", the state after undo", room(untouched), room(touched));
    }

    /** The call answers this after the steps, and changes nothing. */
    static void query(String what, Object due, Steps steps, Call call) {
        ReelConsole touched = after(steps);
        due(what, String.valueOf(due), answer(touched, call));
        due(what + ", the state after it", view(after(steps)), view(touched));
    }

    /** Some 230 calls: everything that an object tells. */
    static String view(ReelConsole x) {
        return room(x) + " saved " + x.savedStates() + " text " + x.textLength() + " error " + x.errorPosition();
    }

    /** Everything that undo brings back. */
    static String room(ReelConsole x) {
        StringBuilder view = new StringBuilder();
        for (int reel = 0; reel < 12; reel++) {
            view.append("\nreel ").append(reel).append(':');
            for (int part = 0; part <= 6; part++) {
                view.append(' ').append(x.reel(reel, part));
            }
        }
        view.append("\ndrives: ").append(x.reelOn(0)).append(' ').append(x.reelOn(1)).append(' ').append(x.reelOn(2));
        view.append("\nscratch ").append(x.scratchReels()).append(" jobs ").append(x.jobs());
        for (int job = 0; job < x.jobs(); job++) {
            view.append("\njob ").append(job).append(':');
            for (int part = 0; part <= 7; part++) {
                view.append(' ').append(x.job(job, part));
            }
            view.append(" stuck ").append(x.isStuck(job)).append(" in ").append(x.minutesToDone(job));
        }
        view.append("\nnext ").append(x.nextJob()).append(' ').append(x.nextReel()).append("\ncounts:");
        for (int what = 0; what <= 10; what++) {
            view.append(' ').append(x.count(what));
        }
        return view.append(" success ").append(x.success()).append('\n').toString();
    }

    /** A view with few calls, for an object that was asked much already. */
    static String brief(ReelConsole x) {
        StringBuilder view = new StringBuilder();
        for (int what = 0; what <= 10; what++) {
            view.append(x.count(what)).append(' ');
        }
        for (int reel = 0; reel < 12; reel++) {
            view.append(x.reel(reel, 1)).append(' ').append(x.reel(reel, 2)).append(' ');
        }
        return view.append(x.jobs()).append(' ').append(x.savedStates()).append(' ').append(x.textLength()).toString();
    }

    static void type(ReelConsole x, String text) {
        x.clearText();
        for (int at = 0; at < text.length(); at++) {
            x.appendText(text.charAt(at));
        }
    }

    /** Lets so many days begin, with few calls, and leaves the text empty. */
    static void toDay(ReelConsole x, int days) {
        type(x, "d;".repeat(39) + "d");
        for (int run = 0; run < days / 40; run++) {
            x.runText();
        }
        for (int left = days % 40; left > 0; left--) {
            x.nextDay();
        }
        x.clearText();
    }

    static void end(String test) {
        System.out.println(test + ": " + (wrong == 0 ? "all answers are as due" : wrong + " answers are not as due"));
        if (wrong != 0) {
            System.exit(1);
        }
    }
}
