/** What the tests share: a bank that is told texts as strings, and a count of what was as due. */
final class Bank {
    static final int NO_SUCH = 0;
    static final int ARGUMENT = 1;
    static final int STATE = 2;
    static final int NONE = IdleMoney.NONE;

    private static int passed;
    private static int failed;

    final IdleMoney it = new IdleMoney();

    interface Call {
        long answer();
    }

    static Bank told(String text) {
        Bank bank = new Bank();
        int lands = bank.tell(text);
        if (lands < 1) {
            throw new AssertionError("the text has a fault " + lands + " at " + bank.it.fault() + ": " + text);
        }
        return bank;
    }

    /** Feeds the text, the last twenty bytes filled up, and tells it. */
    int tell(String text) {
        feed(text);
        return it.text(text.length());
    }

    int feed(String text) {
        int answer = NONE;
        for (int from = 0; from < text.length(); from += 20) {
            int[] five = new int[5];
            for (int i = 0; i < 20; i++) {
                int one = from + i < text.length() ? text.charAt(from + i) : 0;
                five[i / 4] = five[i / 4] << 8 | one;
            }
            answer = it.feed(five[0], five[1], five[2], five[3], five[4]);
        }
        return answer;
    }

    /** All that can be asked without an effect, but for the counts of refusals. */
    String whole() {
        return world() + "\ntape " + it.told(8) + " acts " + it.told(9) + " fault " + it.fault();
    }

    /** What undo() takes back: all but the tape, the acts and the place of the latest fault. */
    String world() {
        StringBuilder all = new StringBuilder();
        for (int what = 0; what < 8; what++) {
            all.append(it.told(what)).append(' ');
        }
        for (int land = 0; land < it.told(0); land++) {
            all.append("\nland");
            for (int what = 0; what < 6; what++) {
                all.append(' ').append(it.land(land, what));
            }
            for (int what = 0; what < 4; what++) {
                all.append(' ').append(it.purse(land, what));
            }
        }
        for (int kind = 0; kind < 5; kind++) {
            all.append(' ').append(it.pays(kind));
        }
        for (int account = 0; account < it.told(1); account++) {
            all.append("\naccount");
            for (int what = 0; what < 11; what++) {
                all.append(' ').append(it.account(account, what));
            }
            all.append(' ').append(it.sleep(account)).append(' ').append(it.soon(account));
            all.append(' ').append(it.worth(account, 0)).append(' ').append(it.worth(account, 600));
        }
        for (int row = 0; row < it.told(6); row++) {
            all.append("\nrow");
            for (int what = 0; what < 5; what++) {
                all.append(' ').append(it.row(row, what));
            }
        }
        for (int what = 0; what < 7; what++) {
            all.append(' ').append(it.books(what));
        }
        return all.append(' ').append(it.print()).toString();
    }

    /** The call throws just this, counts just this, and changes nothing else. */
    void refuses(String name, int kind, Call call) {
        String before = whole();
        int[] counts = {it.status(0), it.status(1), it.status(2)};
        counts[kind]++;
        same(name + " refuses", kindOfRefusal(call), kind);
        for (int i = 0; i < 3; i++) {
            same(name + ": status(" + i + ")", it.status(i), counts[i]);
        }
        holds(name + " changes nothing", before.equals(whole()));
    }

    /** The kind of what the call throws; NONE, if it throws nothing. */
    static int kindOfRefusal(Call call) {
        try {
            call.answer();
            return NONE;
        } catch (RuntimeException e) {
            if (e.getClass() == java.util.NoSuchElementException.class) {
                return NO_SUCH;
            }
            if (e.getClass() == IllegalArgumentException.class) {
                return ARGUMENT;
            }
            return e.getClass() == IllegalStateException.class ? STATE : 9;
        }
    }

    static void same(String what, long got, long want) {
        if (got == want) {
            passed++;
        } else {
            failed++;
            System.out.println(what + " answered " + got + ", due is " + want);
        }
    }

    static void holds(String what, boolean so) {
        same(what, so ? 1 : 0, 1);
    }

    static void end(String test) {
        System.out.println(test + ": " + passed + " answers as due, " + failed + " not");
        if (failed != 0) {
            System.exit(1);
        }
    }
}
