/** What the tests share: a bank that is told texts as strings, and a count of what was as due. */
final class Bank {
    static final int NO_SUCH = 0;
    static final int ARGUMENT = 1;
    static final int STATE = 2;
    static final int NONE = IdleMoney.NONE;

    private static int passed;
    private static int failed;
    private static String sentence = "";

    final Desk it;

    interface Call {
        long answer();
    }

    Bank() {
        this(new Desk());
    }

    private Bank(Desk it) {
        this.it = it;
    }

    /** A bank of its own that has seen the same calls. */
    Bank twin() {
        return new Bank(it.twin());
    }

    static Bank told(String text) {
        Bank bank = new Bank();
        int lands = bank.tell(text);
        if (lands < 1) {
            throw new AssertionError("the text has a fault " + lands + " at " + bank.it.fault() + ": " + text);
        }
        return bank;
    }

    /** Feeds the text, the last twenty bytes filled up, and tells it. */
    int tell(String text) {
        feed(text);
        return it.text(text.length());
    }

    int feed(String text) {
        int answer = NONE;
        for (int from = 0; from < text.length(); from += 20) {
            int[] five = five(text, from);
            answer = it.feed(five[0], five[1], five[2], five[3], five[4]);
        }
        return answer;
    }

    /** Twenty bytes of the text from a place on, of each number the highest first; 0 behind its end. */
    static int[] five(String text, int from) {
        int[] five = new int[5];
        for (int i = 0; i < 20; i++) {
            int one = from + i < text.length() ? text.charAt(from + i) : 0;
            five[i / 4] = five[i / 4] << 8 | one;
        }
        return five;
    }

    /** So many months, of which a call takes 120 at most; answers how many were handed over. */
    int go(int months) {
        int handed = 0;
        for (int left = months; left > 0; left -= 120) {
            handed += it.months(Math.min(left, 120));
        }
        return handed;
    }

    /** All that can be asked without an effect, but for the counts of refusals. */
    String whole() {
        return world() + "\ntape " + it.told(8) + " acts " + it.told(9) + " fault " + it.fault();
    }

    /** What undo() takes back: all but the tape, the acts and the place of the latest fault. */
    String world() {
        StringBuilder all = new StringBuilder();
        for (int what = 0; what < 8; what++) {
            all.append(it.told(what)).append(' ');
        }
        int lands = it.told(0);
        for (int land = 0; land < lands; land++) {
            all.append("\nland");
            for (int what = 0; what < 6; what++) {
                all.append(' ').append(it.land(land, what));
            }
            for (int what = 0; what < 4; what++) {
                all.append(' ').append(it.purse(land, what));
            }
        }
        for (int kind = 0; kind < 5; kind++) {
            all.append(' ').append(it.pays(kind));
        }
        int accounts = it.told(1);
        for (int account = 0; account < accounts; account++) {
            all.append("\naccount");
            for (int what = 0; what < 11; what++) {
                all.append(' ').append(it.account(account, what));
            }
            all.append(' ').append(it.sleep(account)).append(' ').append(it.soon(account));
            all.append(' ').append(it.worth(account, 0)).append(' ').append(it.worth(account, 600));
        }
        int rows = it.told(6);
        for (int row = 0; row < rows; row++) {
            all.append("\nrow");
            for (int what = 0; what < 5; what++) {
                all.append(' ').append(it.row(row, what));
            }
        }
        for (int what = 0; what < 7; what++) {
            all.append(' ').append(it.books(what));
        }
        return all.append(' ').append(it.print()).toString();
    }

    /** What some more calls answer: the tape goes on, months go, the latest act is taken back. */
    private String whatFollows() {
        StringBuilder all = new StringBuilder();
        all.append(it.feed(1, 2, 3, 4, 5)).append(' ').append(it.undo()).append(' ').append(it.print());
        if (it.told(2) < 6000) {
            all.append(' ').append(it.months(1)).append(' ').append(it.print()).append(' ').append(it.undo());
        }
        return all.append(' ').append(it.told(2)).append(' ').append(it.told(8)).append(' ').append(it.print()).toString();
    }

    /**
     * The call throws just this, counts just this, and changes nothing else: a twin that has seen it
     * and one that has not answer alike. Twins are asked, so that this object has calls left.
     */
    void refuses(String name, int kind, Call call) {
        Bank without = twin();
        same(name + " refuses", kindOfRefusal(call), kind);
        Bank with = twin();
        for (int i = 0; i < 3; i++) {
            same(name + ": status(" + i + ")", with.it.status(i), without.it.status(i) + (i == kind ? 1 : 0));
        }
        alike(name + " changes nothing", with.whole(), without.whole());
        alike(name + " changes nothing that follows", with.whatFollows(), without.whatFollows());
    }

    /** The kind of what the call throws; NONE, if it throws nothing. */
    static int kindOfRefusal(Call call) {
        try {
            call.answer();
            return NONE;
        } catch (RuntimeException e) {
            if (e.getClass() == java.util.NoSuchElementException.class) {
                return NO_SUCH;
            }
            if (e.getClass() == IllegalArgumentException.class) {
                return ARGUMENT;
            }
            return e.getClass() == IllegalStateException.class ? STATE : 9;
        }
    }

    /** The sentence of the document that the answers from here on hold to account. */
    static void sentence(String told) {
        sentence = told;
        System.out.println("   " + told);
    }

    static void same(String what, long got, long want) {
        if (got == want) {
            passed++;
        } else {
            failed++;
            System.out.println(sentence + ": " + what + " answered " + got + ", due is " + want);
        }
    }

    static void holds(String what, boolean so) {
        same(what, so ? 1 : 0, 1);
    }

    static void alike(String what, String got, String want) {
        holds(what, got.equals(want));
    }

    static void end(String test) {
        System.out.println(test + ": " + passed + " answers as due, " + failed + " not");
        if (failed != 0) {
            System.exit(1);
        }
    }
}
