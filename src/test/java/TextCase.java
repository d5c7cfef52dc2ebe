/** What the tests of the language of laws share. */
abstract class TextCase {
    static final String A = "land a 0 0 0 1;";
    static final String[] KINDS = {"savings", "wages", "shares", "cheque", "box"};

    static final int CANNOT_STAND = 1;
    static final int WRONG_NUMBER = 2;
    static final int WRONG_NAME = 3;
    static final int SIXTH_LAND = 4;
    static final int FOURTH_LEVEL = 5;
    static final int SECOND_LAW = 6;
    static final int NO_LAND = 7;

    static void fault(String text, int what, int where) {
        Bank bank = new Bank();
        Bank.same("text \"" + text + "\"", bank.tell(text), what - 10);
        Bank.same("fault() of \"" + text + "\"", bank.it.fault(), where);
    }

    static void stands(String text) {
        Bank bank = new Bank();
        Bank.holds("\"" + text + "\" has no fault", bank.tell(text) > 0);
        Bank.same("fault() of \"" + text + "\"", bank.it.fault(), Bank.NONE);
    }

    /** A law's expression behind A; the fault's place is told from the expression's first byte on. */
    static void law(String expression, int what, int where) {
        String head = A + "sleep box a ";
        if (what == 0) {
            stands(head + expression + ";");
        } else {
            fault(head + expression + ";", what, head.length() + where);
        }
    }

    /** So many lands, named a, b and so on, each 15 bytes. */
    static String lands(int count) {
        StringBuilder text = new StringBuilder();
        for (int i = 0; i < count; i++) {
            text.append("land ").append((char) ('a' + i)).append(" 0 0 0 1;");
        }
        return text.toString();
    }

    /** The text with blanks behind it, up to so many bytes. */
    static String filled(String text, int length) {
        StringBuilder all = new StringBuilder(text);
        while (all.length() < length) {
            all.append(' ');
        }
        return all.toString();
    }
}
