import java.util.regex.Pattern;

/** Section 6 of the document as a pattern, to hold the program's reader against. */
final class Grammar {
    private static final String COMMAND = "([rwc][1-9][0-9]?\\*(1[0-9]?|20?|[3-9])(![0-9])?|t[1-9][0-9]?|d)";
    private static final Pattern TEXT = Pattern.compile(COMMAND + "(;" + COMMAND + ")*");
    /** Each beginning of a valid text becomes a valid text with one of these behind it. */
    private static final String[] ENDS = {"", "d", "1", "*1", "1*1"};

    private Grammar() {
    }

    static int errorPosition(String text) {
        if (TEXT.matcher(text).matches()) {
            return -1;
        }
        for (int at = 0; at < text.length(); at++) {
            if (!canGoOn(text.substring(0, at + 1))) {
                return at;
            }
        }
        return text.length();
    }

    private static boolean canGoOn(String begun) {
        for (String end : ENDS) {
            if (TEXT.matcher(begun + end).matches()) {
                return true;
            }
        }
        return false;
    }
}
