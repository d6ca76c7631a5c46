/** Whether a text is a law, by trying every split that the grammar allows. */
final class Recogniser {
    private static final String[] LEVELS = {"|", "&", "<=>", "+-", "*/%"};

    private Recogniser() { }

    static boolean isText(String t) {
        for (String line : t.split(";", -1)) {
            int q = line.indexOf('?');
            boolean so = q < 0 ? isLevel(line, 0, 0) : isLevel(line.substring(0, q), 0, 0) && isLevel(line.substring(q + 1), 0, 0);
            if (!so) {
                return false;
            }
        }
        return true;
    }

    private static boolean isLevel(String t, int level, int open) {
        if (t.isEmpty()) {
            return false;
        }
        if (level == 5) {
            return isOperand(t, open);
        }
        if (isLevel(t, level + 1, open)) {
            return true;
        }
        for (int i = 1; i < t.length() - 1; i++) {
            if (LEVELS[level].indexOf(t.charAt(i)) >= 0) {
                // Two compared parts are no chain: neither may be a comparison itself.
                int ahead = level == 2 ? 3 : level;
                if (isLevel(t.substring(i + 1), level + 1, open) && isLevel(t.substring(0, i), ahead, open)) {
                    return true;
                }
            }
        }
        return false;
    }

    private static boolean isOperand(String t, int open) {
        char c = t.charAt(0);
        if (c == '!' || c == '-') {
            return open < 6 && t.length() > 1 && isOperand(t.substring(1), open + 1);
        }
        if (c == '(') {
            return open < 6 && t.endsWith(")") && isLevel(t.substring(1, t.length() - 1), 0, open + 1);
        }
        return t.matches("[nvshfy]|[0-9]{1,4}");
    }
}
